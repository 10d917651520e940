theorem dX4_duel_162 : decode cX4_duel 162 = .ok (.aload_n 0, 1) := by decide +kernel
theorem dX4_duel_163 : decode cX4_duel 163 = .ok (.getfield 59, 3) := by decide +kernel
theorem dX4_duel_166 : decode cX4_duel 166 = .ok (.iconst 0, 1) := by decide +kernel
theorem dX4_duel_167 : decode cX4_duel 167 = .ok (.aload_n 0, 1) := by decide +kernel
theorem dX4_duel_168 : decode cX4_duel 168 = .ok (.getfield 56, 3) := by decide +kernel
theorem dX4_duel_171 : decode cX4_duel 171 = .ok (.iconst 0, 1) := by decide +kernel
theorem dX4_duel_172 : decode cX4_duel 172 = .ok (.bipush 16, 2) := by decide +kernel
theorem dX4_duel_174 : decode cX4_duel 174 = .ok (.invokestatic 174, 3) := by decide +kernel
theorem dX4_duel_177 : decode cX4_duel 177 = .ok (.iinc 4 (-1), 3) := by decide +kernel
theorem dX4_duel_180 : decode cX4_duel 180 = .ok (.goto (-65), 3) := by decide +kernel
theorem dX4_duel_183 : decode cX4_duel 183 = .ok (.bipush 100, 2) := by decide +kernel
theorem dX4_duel_185 : decode cX4_duel 185 = .ok (.aload_n 0, 1) := by decide +kernel
theorem dX4_duel_186 : decode cX4_duel 186 = .ok (.getfield 56, 3) := by decide +kernel
theorem dX4_duel_189 : decode cX4_duel 189 = .ok (.iconst 4, 1) := by decide +kernel
theorem dX4_duel_190 : decode cX4_duel 190 = .ok (.aload_n 0, 1) := by decide +kernel
theorem dX4_duel_191 : decode cX4_duel 191 = .ok (.getfield 38, 3) := by decide +kernel
theorem dX4_duel_194 : decode cX4_duel 194 = .ok (.bipush 7, 2) := by decide +kernel
theorem dX4_duel_196 : decode cX4_duel 196 = .ok (.iload_n 1, 1) := by decide +kernel
theorem dX4_duel_197 : decode cX4_duel 197 = .ok (.iadd, 1) := by decide +kernel
theorem dX4_duel_198 : decode cX4_duel 198 = .ok (.iaload, 1) := by decide +kernel
theorem dX4_duel_199 : decode cX4_duel 199 = .ok (.imul, 1) := by decide +kernel
theorem dX4_duel_200 : decode cX4_duel 200 = .ok (.aload_n 0, 1) := by decide +kernel
theorem dX4_duel_201 : decode cX4_duel 201 = .ok (.getfield 38, 3) := by decide +kernel
theorem dX4_duel_204 : decode cX4_duel 204 = .ok (.bipush 7, 2) := by decide +kernel
theorem dX4_duel_206 : decode cX4_duel 206 = .ok (.iload_n 2, 1) := by decide +kernel
theorem dX4_duel_207 : decode cX4_duel 207 = .ok (.iadd, 1) := by decide +kernel
theorem dX4_duel_208 : decode cX4_duel 208 = .ok (.iaload, 1) := by decide +kernel
theorem dX4_duel_209 : decode cX4_duel 209 = .ok (.iadd, 1) := by decide +kernel
theorem dX4_duel_210 : decode cX4_duel 210 = .ok (.iaload, 1) := by decide +kernel
theorem dX4_duel_211 : decode cX4_duel 211 = .ok (.iadd, 1) := by decide +kernel
theorem dX4_duel_212 : decode cX4_duel 212 = .ok (.ireturn, 1) := by decide +kernel
theorem dX4_fraction_0 : decode cX4_fraction 0 = .ok (.lload_n 1, 1) := by decide +kernel
theorem dX4_fraction_1 : decode cX4_fraction 1 = .ok (.lstore 5, 2) := by decide +kernel
theorem dX4_fraction_3 : decode cX4_fraction 3 = .ok (.lload_n 3, 1) := by decide +kernel
theorem dX4_fraction_4 : decode cX4_fraction 4 = .ok (.lstore 7, 2) := by decide +kernel
theorem dX4_fraction_6 : decode cX4_fraction 6 = .ok (.lload 7, 2) := by decide +kernel
theorem dX4_fraction_8 : decode cX4_fraction 8 = .ok (.lconst 0, 1) := by decide +kernel
theorem dX4_fraction_9 : decode cX4_fraction 9 = .ok (.lcmp, 1) := by decide +kernel
theorem dX4_fraction_10 : decode cX4_fraction 10 = .ok (.ifCond .eq 21, 3) := by decide +kernel
theorem dX4_fraction_13 : decode cX4_fraction 13 = .ok (.lload 5, 2) := by decide +kernel
theorem dX4_fraction_15 : decode cX4_fraction 15 = .ok (.lload 7, 2) := by decide +kernel
theorem dX4_fraction_17 : decode cX4_fraction 17 = .ok (.lrem, 1) := by decide +kernel
theorem dX4_fraction_18 : decode cX4_fraction 18 = .ok (.lstore 9, 2) := by decide +kernel
theorem dX4_fraction_20 : decode cX4_fraction 20 = .ok (.lload 7, 2) := by decide +kernel
theorem dX4_fraction_22 : decode cX4_fraction 22 = .ok (.lstore 5, 2) := by decide +kernel
theorem dX4_fraction_24 : decode cX4_fraction 24 = .ok (.lload 9, 2) := by decide +kernel
theorem dX4_fraction_26 : decode cX4_fraction 26 = .ok (.lstore 7, 2) := by decide +kernel
theorem dX4_fraction_28 : decode cX4_fraction 28 = .ok (.goto (-22), 3) := by decide +kernel
theorem dX4_fraction_31 : decode cX4_fraction 31 = .ok (.aload_n 0, 1) := by decide +kernel
theorem dX4_fraction_32 : decode cX4_fraction 32 = .ok (.lload_n 1, 1) := by decide +kernel
theorem dX4_fraction_33 : decode cX4_fraction 33 = .ok (.lload 5, 2) := by decide +kernel
theorem dX4_fraction_35 : decode cX4_fraction 35 = .ok (.ldiv, 1) := by decide +kernel
theorem dX4_fraction_36 : decode cX4_fraction 36 = .ok (.putfield 234, 3) := by decide +kernel
theorem dX4_fraction_39 : decode cX4_fraction 39 = .ok (.aload_n 0, 1) := by decide +kernel
theorem dX4_fraction_40 : decode cX4_fraction 40 = .ok (.lload_n 3, 1) := by decide +kernel
theorem dX4_fraction_41 : decode cX4_fraction 41 = .ok (.lload 5, 2) := by decide +kernel
theorem dX4_fraction_43 : decode cX4_fraction 43 = .ok (.ldiv, 1) := by decide +kernel
theorem dX4_fraction_44 : decode cX4_fraction 44 = .ok (.putfield 22, 3) := by decide +kernel
theorem dX4_fraction_47 : decode cX4_fraction 47 = .ok (.iconst 1, 1) := by decide +kernel
theorem dX4_fraction_48 : decode cX4_fraction 48 = .ok (.ireturn, 1) := by decide +kernel
theorem dX4_ways_0 : decode cX4_ways 0 = .ok (.lconst 0, 1) := by decide +kernel
theorem dX4_ways_1 : decode cX4_ways 1 = .ok (.lstore 4, 2) := by decide +kernel
theorem dX4_ways_3 : decode cX4_ways 3 = .ok (.iconst 0, 1) := by decide +kernel
theorem dX4_ways_4 : decode cX4_ways 4 = .ok (.istore 6, 2) := by decide +kernel
theorem dX4_ways_6 : decode cX4_ways 6 = .ok (.iload 6, 2) := by decide +kernel
theorem dX4_ways_8 : decode cX4_ways 8 = .ok (.iconst 1, 1) := by decide +kernel
theorem dX4_ways_9 : decode cX4_ways 9 = .ok (.aload_n 0, 1) := by decide +kernel
theorem dX4_ways_10 : decode cX4_ways 10 = .ok (.getfield 136, 3) := by decide +kernel
theorem dX4_ways_13 : decode cX4_ways 13 = .ok (.ishl, 1) := by decide +kernel
theorem dX4_ways_14 : decode cX4_ways 14 = .ok (.if_icmp .ge 153, 3) := by decide +kernel
theorem dX4_ways_17 : decode cX4_ways 17 = .ok (.aload_n 0, 1) := by decide +kernel
theorem dX4_ways_18 : decode cX4_ways 18 = .ok (.aload_n 0, 1) := by decide +kernel
theorem dX4_ways_19 : decode cX4_ways 19 = .ok (.getfield 38, 3) := by decide +kernel
theorem dX4_ways_22 : decode cX4_ways 22 = .ok (.invokevirtual 150, 3) := by decide +kernel
theorem dX4_ways_25 : decode cX4_ways 25 = .ok (.istore 7, 2) := by decide +kernel
theorem dX4_ways_27 : decode cX4_ways 27 = .ok (.iconst 0, 1) := by decide +kernel
theorem dX4_ways_28 : decode cX4_ways 28 = .ok (.istore 7, 2) := by decide +kernel
theorem dX4_ways_30 : decode cX4_ways 30 = .ok (.lconst 1, 1) := by decide +kernel
theorem dX4_ways_31 : decode cX4_ways 31 = .ok (.lstore 8, 2) := by decide +kernel
theorem dX4_ways_33 : decode cX4_ways 33 = .ok (.iconst 0, 1) := by decide +kernel
theorem dX4_ways_34 : decode cX4_ways 34 = .ok (.istore 10, 2) := by decide +kernel
theorem dX4_ways_36 : decode cX4_ways 36 = .ok (.iload 10, 2) := by decide +kernel
theorem dX4_ways_38 : decode cX4_ways 38 = .ok (.aload_n 0, 1) := by decide +kernel
theorem dX4_ways_39 : decode cX4_ways 39 = .ok (.getfield 136, 3) := by decide +kernel
theorem dX4_ways_42 : decode cX4_ways 42 = .ok (.if_icmp .ge 77, 3) := by decide +kernel
theorem dX4_ways_45 : decode cX4_ways 45 = .ok (.lload 8, 2) := by decide +kernel
theorem dX4_ways_47 : decode cX4_ways 47 = .ok (.iload 6, 2) := by decide +kernel
theorem dX4_ways_49 : decode cX4_ways 49 = .ok (.iload 10, 2) := by decide +kernel
theorem dX4_ways_51 : decode cX4_ways 51 = .ok (.invokestatic 227, 3) := by decide +kernel
theorem dX4_ways_54 : decode cX4_ways 54 = .ok (.ifCond .eq 8, 3) := by decide +kernel
theorem dX4_ways_57 : decode cX4_ways 57 = .ok (.iload_n 3, 1) := by decide +kernel
theorem dX4_ways_58 : decode cX4_ways 58 = .ok (.i2l, 1) := by decide +kernel
theorem dX4_ways_59 : decode cX4_ways 59 = .ok (.goto 9, 3) := by decide +kernel
theorem dX4_ways_62 : decode cX4_ways 62 = .ok (.ldc2_w 237, 3) := by decide +kernel
theorem dX4_ways_65 : decode cX4_ways 65 = .ok (.iload_n 3, 1) := by decide +kernel
theorem dX4_ways_66 : decode cX4_ways 66 = .ok (.i2l, 1) := by decide +kernel
theorem dX4_ways_67 : decode cX4_ways 67 = .ok (.lsub, 1) := by decide +kernel
theorem dX4_ways_68 : decode cX4_ways 68 = .ok (.lmul, 1) := by decide +kernel
theorem dX4_ways_69 : decode cX4_ways 69 = .ok (.lstore 8, 2) := by decide +kernel
theorem dX4_ways_71 : decode cX4_ways 71 = .ok (.aload_n 0, 1) := by decide +kernel
theorem dX4_ways_72 : decode cX4_ways 72 = .ok (.getfield 44, 3) := by decide +kernel
theorem dX4_ways_75 : decode cX4_ways 75 = .ok (.iload 10, 2) := by decide +kernel
theorem dX4_ways_77 : decode cX4_ways 77 = .ok (.iload 6, 2) := by decide +kernel
theorem dX4_ways_79 : decode cX4_ways 79 = .ok (.iload 10, 2) := by decide +kernel
theorem dX4_ways_81 : decode cX4_ways 81 = .ok (.invokestatic 227, 3) := by decide +kernel
theorem dX4_ways_84 : decode cX4_ways 84 = .ok (.ifCond .eq 7, 3) := by decide +kernel
theorem dX4_ways_87 : decode cX4_ways 87 = .ok (.iconst 0, 1) := by decide +kernel
theorem dX4_ways_88 : decode cX4_ways 88 = .ok (.goto 10, 3) := by decide +kernel
theorem dX4_ways_91 : decode cX4_ways 91 = .ok (.aload_n 0, 1) := by decide +kernel
theorem dX4_ways_92 : decode cX4_ways 92 = .ok (.getfield 44, 3) := by decide +kernel
theorem dX4_ways_95 : decode cX4_ways 95 = .ok (.iload 10, 2) := by decide +kernel
theorem dX4_ways_97 : decode cX4_ways 97 = .ok (.iaload, 1) := by decide +kernel
theorem dX4_ways_98 : decode cX4_ways 98 = .ok (.iastore, 1) := by decide +kernel
theorem dX4_ways_99 : decode cX4_ways 99 = .ok (.iload 7, 2) := by decide +kernel
theorem dX4_ways_101 : decode cX4_ways 101 = .ok (.aload_n 0, 1) := by decide +kernel
theorem dX4_ways_102 : decode cX4_ways 102 = .ok (.getfield 44, 3) := by decide +kernel
theorem dX4_ways_105 : decode cX4_ways 105 = .ok (.iload 10, 2) := by decide +kernel
theorem dX4_ways_107 : decode cX4_ways 107 = .ok (.iaload, 1) := by decide +kernel
theorem dX4_ways_108 : decode cX4_ways 108 = .ok (.invokestatic 139, 3) := by decide +kernel
theorem dX4_ways_111 : decode cX4_ways 111 = .ok (.istore 7, 2) := by decide +kernel
theorem dX4_ways_113 : decode cX4_ways 113 = .ok (.iinc 10 1, 3) := by decide +kernel
theorem dX4_ways_116 : decode cX4_ways 116 = .ok (.goto (-80), 3) := by decide +kernel
theorem dX4_ways_119 : decode cX4_ways 119 = .ok (.lload 4, 2) := by decide +kernel
theorem dX4_ways_121 : decode cX4_ways 121 = .ok (.lload 8, 2) := by decide +kernel
theorem dX4_ways_123 : decode cX4_ways 123 = .ok (.iload_n 1, 1) := by decide +kernel
theorem dX4_ways_124 : decode cX4_ways 124 = .ok (.bipush (-9), 2) := by decide +kernel
theorem dX4_ways_126 : decode cX4_ways 126 = .ok (.if_icmp .ne 12, 3) := by decide +kernel
theorem dX4_ways_129 : decode cX4_ways 129 = .ok (.aload_n 0, 1) := by decide +kernel
theorem dX4_ways_130 : decode cX4_ways 130 = .ok (.iload 7, 2) := by decide +kernel
theorem dX4_ways_132 : decode cX4_ways 132 = .ok (.invokevirtual 154, 3) := by decide +kernel
theorem dX4_ways_135 : decode cX4_ways 135 = .ok (.goto 21, 3) := by decide +kernel
theorem dX4_ways_138 : decode cX4_ways 138 = .ok (.iload 7, 2) := by decide +kernel
theorem dX4_ways_140 : decode cX4_ways 140 = .ok (.aload_n 0, 1) := by decide +kernel
theorem dX4_ways_141 : decode cX4_ways 141 = .ok (.getfield 44, 3) := by decide +kernel
theorem dX4_ways_144 : decode cX4_ways 144 = .ok (.iload_n 1, 1) := by decide +kernel
theorem dX4_ways_145 : decode cX4_ways 145 = .ok (.iaload, 1) := by decide +kernel
theorem dX4_ways_146 : decode cX4_ways 146 = .ok (.isub, 1) := by decide +kernel
theorem dX4_ways_147 : decode cX4_ways 147 = .ok (.iload_n 2, 1) := by decide +kernel
theorem dX4_ways_148 : decode cX4_ways 148 = .ok (.if_icmp .lt 7, 3) := by decide +kernel
theorem dX4_ways_151 : decode cX4_ways 151 = .ok (.iconst 1, 1) := by decide +kernel
theorem dX4_ways_152 : decode cX4_ways 152 = .ok (.goto 4, 3) := by decide +kernel
theorem dX4_ways_155 : decode cX4_ways 155 = .ok (.iconst 0, 1) := by decide +kernel
theorem dX4_ways_156 : decode cX4_ways 156 = .ok (.i2l, 1) := by decide +kernel
theorem dX4_ways_157 : decode cX4_ways 157 = .ok (.lmul, 1) := by decide +kernel
theorem dX4_ways_158 : decode cX4_ways 158 = .ok (.ladd, 1) := by decide +kernel
theorem dX4_ways_159 : decode cX4_ways 159 = .ok (.lstore 4, 2) := by decide +kernel
theorem dX4_ways_161 : decode cX4_ways 161 = .ok (.iinc 6 1, 3) := by decide +kernel
theorem dX4_ways_164 : decode cX4_ways 164 = .ok (.goto (-158), 3) := by decide +kernel
theorem dX4_ways_167 : decode cX4_ways 167 = .ok (.lload 4, 2) := by decide +kernel
theorem dX4_ways_169 : decode cX4_ways 169 = .ok (.lreturn, 1) := by decide +kernel
theorem dX4_allWays_0 : decode cX4_allWays 0 = .ok (.lconst 1, 1) := by decide +kernel
theorem dX4_allWays_1 : decode cX4_allWays 1 = .ok (.lstore_n 1, 1) := by decide +kernel
theorem dX4_allWays_2 : decode cX4_allWays 2 = .ok (.iconst 0, 1) := by decide +kernel
theorem dX4_allWays_3 : decode cX4_allWays 3 = .ok (.istore_n 3, 1) := by decide +kernel
theorem dX4_allWays_4 : decode cX4_allWays 4 = .ok (.iload_n 3, 1) := by decide +kernel
theorem dX4_allWays_5 : decode cX4_allWays 5 = .ok (.aload_n 0, 1) := by decide +kernel
theorem dX4_allWays_6 : decode cX4_allWays 6 = .ok (.getfield 136, 3) := by decide +kernel
theorem dX4_allWays_9 : decode cX4_allWays 9 = .ok (.if_icmp .ge 15, 3) := by decide +kernel
theorem dX4_allWays_12 : decode cX4_allWays 12 = .ok (.lload_n 1, 1) := by decide +kernel
theorem dX4_allWays_13 : decode cX4_allWays 13 = .ok (.ldc2_w 237, 3) := by decide +kernel
theorem dX4_allWays_16 : decode cX4_allWays 16 = .ok (.lmul, 1) := by decide +kernel
theorem dX4_allWays_17 : decode cX4_allWays 17 = .ok (.lstore_n 1, 1) := by decide +kernel
theorem dX4_allWays_18 : decode cX4_allWays 18 = .ok (.iinc 3 1, 3) := by decide +kernel
theorem dX4_allWays_21 : decode cX4_allWays 21 = .ok (.goto (-17), 3) := by decide +kernel
theorem dX4_allWays_24 : decode cX4_allWays 24 = .ok (.lload_n 1, 1) := by decide +kernel
theorem dX4_allWays_25 : decode cX4_allWays 25 = .ok (.lreturn, 1) := by decide +kernel
theorem dX4_odds_0 : decode cX4_odds 0 = .ok (.aload_n 0, 1) := by decide +kernel
theorem dX4_odds_1 : decode cX4_odds 1 = .ok (.iload_n 1, 1) := by decide +kernel
theorem dX4_odds_2 : decode cX4_odds 2 = .ok (.invokevirtual 157, 3) := by decide +kernel
theorem dX4_odds_5 : decode cX4_odds 5 = .ok (.ifCond .eq 45, 3) := by decide +kernel
theorem dX4_odds_8 : decode cX4_odds 8 = .ok (.iload_n 2, 1) := by decide +kernel
theorem dX4_odds_9 : decode cX4_odds 9 = .ok (.i2l, 1) := by decide +kernel
theorem dX4_odds_10 : decode cX4_odds 10 = .ok (.lconst 0, 1) := by decide +kernel
theorem dX4_odds_11 : decode cX4_odds 11 = .ok (.ldc2_w 197, 3) := by decide +kernel
theorem dX4_odds_14 : decode cX4_odds 14 = .ok (.invokestatic 74, 3) := by decide +kernel
theorem dX4_odds_17 : decode cX4_odds 17 = .ok (.ifCond .eq 33, 3) := by decide +kernel
theorem dX4_odds_20 : decode cX4_odds 20 = .ok (.iload_n 3, 1) := by decide +kernel
theorem dX4_odds_21 : decode cX4_odds 21 = .ok (.i2l, 1) := by decide +kernel
theorem dX4_odds_22 : decode cX4_odds 22 = .ok (.lconst 0, 1) := by decide +kernel
theorem dX4_odds_23 : decode cX4_odds 23 = .ok (.ldc2_w 237, 3) := by decide +kernel
theorem dX4_odds_26 : decode cX4_odds 26 = .ok (.invokestatic 74, 3) := by decide +kernel
theorem dX4_odds_29 : decode cX4_odds 29 = .ok (.ifCond .eq 21, 3) := by decide +kernel
theorem dX4_odds_32 : decode cX4_odds 32 = .ok (.aload_n 0, 1) := by decide +kernel
theorem dX4_odds_33 : decode cX4_odds 33 = .ok (.aload_n 0, 1) := by decide +kernel
theorem dX4_odds_34 : decode cX4_odds 34 = .ok (.iload_n 1, 1) := by decide +kernel
theorem dX4_odds_35 : decode cX4_odds 35 = .ok (.iload_n 2, 1) := by decide +kernel
theorem dX4_odds_36 : decode cX4_odds 36 = .ok (.iload_n 3, 1) := by decide +kernel
theorem dX4_odds_37 : decode cX4_odds 37 = .ok (.invokevirtual 239, 3) := by decide +kernel
theorem dX4_odds_40 : decode cX4_odds 40 = .ok (.aload_n 0, 1) := by decide +kernel
theorem dX4_odds_41 : decode cX4_odds 41 = .ok (.invokevirtual 243, 3) := by decide +kernel
theorem dX4_odds_44 : decode cX4_odds 44 = .ok (.invokevirtual 247, 3) := by decide +kernel
theorem dX4_odds_47 : decode cX4_odds 47 = .ok (.goto 4, 3) := by decide +kernel
theorem dX4_odds_50 : decode cX4_odds 50 = .ok (.iconst (-1), 1) := by decide +kernel
theorem dX4_odds_51 : decode cX4_odds 51 = .ok (.ireturn, 1) := by decide +kernel
theorem dX4_mid_0 : decode cX4_mid 0 = .ok (.iload_n 1, 1) := by decide +kernel
theorem dX4_mid_1 : decode cX4_mid 1 = .ok (.i2l, 1) := by decide +kernel
theorem dX4_mid_2 : decode cX4_mid 2 = .ok (.lconst 0, 1) := by decide +kernel
theorem dX4_mid_3 : decode cX4_mid 3 = .ok (.ldc2_w 237, 3) := by decide +kernel
theorem dX4_mid_6 : decode cX4_mid 6 = .ok (.invokestatic 74, 3) := by decide +kernel
theorem dX4_mid_9 : decode cX4_mid 9 = .ok (.ifCond .ne 5, 3) := by decide +kernel
theorem dX4_mid_12 : decode cX4_mid 12 = .ok (.iconst (-1), 1) := by decide +kernel
theorem dX4_mid_13 : decode cX4_mid 13 = .ok (.ireturn, 1) := by decide +kernel
theorem dX4_mid_14 : decode cX4_mid 14 = .ok (.aload_n 0, 1) := by decide +kernel
theorem dX4_mid_15 : decode cX4_mid 15 = .ok (.getfield 136, 3) := by decide +kernel
theorem dX4_mid_18 : decode cX4_mid 18 = .ok (.ifCond .ne 8, 3) := by decide +kernel
theorem dX4_mid_21 : decode cX4_mid 21 = .ok (.bipush (-4), 2) := by decide +kernel
theorem dX4_mid_23 : decode cX4_mid 23 = .ok (.goto 19, 3) := by decide +kernel
theorem dX4_mid_26 : decode cX4_mid 26 = .ok (.aload_n 0, 1) := by decide +kernel
theorem dX4_mid_27 : decode cX4_mid 27 = .ok (.aload_n 0, 1) := by decide +kernel
theorem dX4_mid_28 : decode cX4_mid 28 = .ok (.bipush (-9), 2) := by decide +kernel
theorem dX4_mid_30 : decode cX4_mid 30 = .ok (.iconst 0, 1) := by decide +kernel
theorem dX4_mid_31 : decode cX4_mid 31 = .ok (.iload_n 1, 1) := by decide +kernel
theorem dX4_mid_32 : decode cX4_mid 32 = .ok (.invokevirtual 239, 3) := by decide +kernel
theorem dX4_mid_35 : decode cX4_mid 35 = .ok (.aload_n 0, 1) := by decide +kernel
theorem dX4_mid_36 : decode cX4_mid 36 = .ok (.invokevirtual 243, 3) := by decide +kernel
theorem dX4_mid_39 : decode cX4_mid 39 = .ok (.invokevirtual 247, 3) := by decide +kernel
theorem dX4_mid_42 : decode cX4_mid 42 = .ok (.ireturn, 1) := by decide +kernel
theorem dX4_lot_0 : decode cX4_lot 0 = .ok (.iload_n 1, 1) := by decide +kernel
theorem dX4_lot_1 : decode cX4_lot 1 = .ok (.bipush 8, 2) := by decide +kernel
theorem dX4_lot_3 : decode cX4_lot 3 = .ok (.idiv, 1) := by decide +kernel
theorem dX4_lot_4 : decode cX4_lot 4 = .ok (.aload_n 0, 1) := by decide +kernel
theorem dX4_lot_5 : decode cX4_lot 5 = .ok (.getfield 136, 3) := by decide +kernel
theorem dX4_lot_8 : decode cX4_lot 8 = .ok (.irem, 1) := by decide +kernel
theorem dX4_lot_9 : decode cX4_lot 9 = .ok (.istore_n 2, 1) := by decide +kernel
theorem dX4_lot_10 : decode cX4_lot 10 = .ok (.aload_n 0, 1) := by decide +kernel
theorem dX4_lot_11 : decode cX4_lot 11 = .ok (.invokevirtual 178, 3) := by decide +kernel
theorem dX4_lot_14 : decode cX4_lot 14 = .ok (.iload_n 1, 1) := by decide +kernel
theorem dX4_lot_15 : decode cX4_lot 15 = .ok (.iconst 4, 1) := by decide +kernel
theorem dX4_lot_16 : decode cX4_lot 16 = .ok (.irem, 1) := by decide +kernel
theorem dX4_lot_17 : decode cX4_lot 17 = .ok (.ifCond .ne 43, 3) := by decide +kernel
theorem dX4_lot_20 : decode cX4_lot 20 = .ok (.aload_n 0, 1) := by decide +kernel
theorem dX4_lot_21 : decode cX4_lot 21 = .ok (.getfield 38, 3) := by decide +kernel
theorem dX4_lot_24 : decode cX4_lot 24 = .ok (.bipush 7, 2) := by decide +kernel
theorem dX4_lot_26 : decode cX4_lot 26 = .ok (.iload_n 2, 1) := by decide +kernel
theorem dX4_lot_27 : decode cX4_lot 27 = .ok (.iadd, 1) := by decide +kernel
theorem dX4_lot_28 : decode cX4_lot 28 = .ok (.aload_n 0, 1) := by decide +kernel
theorem dX4_lot_29 : decode cX4_lot 29 = .ok (.getfield 38, 3) := by decide +kernel
theorem dX4_lot_32 : decode cX4_lot 32 = .ok (.bipush 7, 2) := by decide +kernel
theorem dX4_lot_34 : decode cX4_lot 34 = .ok (.iload_n 2, 1) := by decide +kernel
theorem dX4_lot_35 : decode cX4_lot 35 = .ok (.iadd, 1) := by decide +kernel
theorem dX4_lot_36 : decode cX4_lot 36 = .ok (.iaload, 1) := by decide +kernel
theorem dX4_lot_37 : decode cX4_lot 37 = .ok (.iconst 3, 1) := by decide +kernel
theorem dX4_lot_38 : decode cX4_lot 38 = .ok (.if_icmp .ne 7, 3) := by decide +kernel
theorem dX4_lot_41 : decode cX4_lot 41 = .ok (.iconst 0, 1) := by decide +kernel
theorem dX4_lot_42 : decode cX4_lot 42 = .ok (.goto 14, 3) := by decide +kernel
theorem dX4_lot_45 : decode cX4_lot 45 = .ok (.aload_n 0, 1) := by decide +kernel
theorem dX4_lot_46 : decode cX4_lot 46 = .ok (.getfield 38, 3) := by decide +kernel
theorem dX4_lot_49 : decode cX4_lot 49 = .ok (.bipush 7, 2) := by decide +kernel
theorem dX4_lot_51 : decode cX4_lot 51 = .ok (.iload_n 2, 1) := by decide +kernel
theorem dX4_lot_52 : decode cX4_lot 52 = .ok (.iadd, 1) := by decide +kernel
theorem dX4_lot_53 : decode cX4_lot 53 = .ok (.iaload, 1) := by decide +kernel
theorem dX4_lot_54 : decode cX4_lot 54 = .ok (.iconst 1, 1) := by decide +kernel
theorem dX4_lot_55 : decode cX4_lot 55 = .ok (.iadd, 1) := by decide +kernel
theorem dX4_lot_56 : decode cX4_lot 56 = .ok (.iastore, 1) := by decide +kernel
theorem dX4_lot_57 : decode cX4_lot 57 = .ok (.goto 43, 3) := by decide +kernel
theorem dX4_lot_60 : decode cX4_lot 60 = .ok (.iload_n 1, 1) := by decide +kernel
theorem dX4_lot_61 : decode cX4_lot 61 = .ok (.iconst 4, 1) := by decide +kernel
theorem dX4_lot_62 : decode cX4_lot 62 = .ok (.irem, 1) := by decide +kernel
theorem dX4_lot_63 : decode cX4_lot 63 = .ok (.iconst 1, 1) := by decide +kernel
theorem dX4_lot_64 : decode cX4_lot 64 = .ok (.if_icmp .ne 16, 3) := by decide +kernel
theorem dX4_lot_67 : decode cX4_lot 67 = .ok (.aload_n 0, 1) := by decide +kernel
theorem dX4_lot_68 : decode cX4_lot 68 = .ok (.getfield 38, 3) := by decide +kernel
theorem dX4_lot_71 : decode cX4_lot 71 = .ok (.bipush 7, 2) := by decide +kernel
theorem dX4_lot_73 : decode cX4_lot 73 = .ok (.iload_n 2, 1) := by decide +kernel
theorem dX4_lot_74 : decode cX4_lot 74 = .ok (.iadd, 1) := by decide +kernel
theorem dX4_lot_75 : decode cX4_lot 75 = .ok (.iconst 0, 1) := by decide +kernel
theorem dX4_lot_76 : decode cX4_lot 76 = .ok (.iastore, 1) := by decide +kernel
theorem dX4_lot_77 : decode cX4_lot 77 = .ok (.goto 23, 3) := by decide +kernel
theorem dX4_lot_80 : decode cX4_lot 80 = .ok (.aload_n 0, 1) := by decide +kernel
theorem dX4_lot_81 : decode cX4_lot 81 = .ok (.getfield 38, 3) := by decide +kernel
theorem dX4_lot_84 : decode cX4_lot 84 = .ok (.iconst 0, 1) := by decide +kernel
theorem dX4_lot_85 : decode cX4_lot 85 = .ok (.iaload, 1) := by decide +kernel
theorem dX4_lot_86 : decode cX4_lot 86 = .ok (.bipush 99, 2) := by decide +kernel
theorem dX4_lot_88 : decode cX4_lot 88 = .ok (.if_icmp .ge 12, 3) := by decide +kernel
theorem dX4_lot_91 : decode cX4_lot 91 = .ok (.aload_n 0, 1) := by decide +kernel
theorem dX4_lot_92 : decode cX4_lot 92 = .ok (.aload_n 0, 1) := by decide +kernel
theorem dX4_lot_93 : decode cX4_lot 93 = .ok (.getfield 38, 3) := by decide +kernel
theorem dX4_lot_96 : decode cX4_lot 96 = .ok (.invokevirtual 181, 3) := by decide +kernel
theorem dX4_lot_99 : decode cX4_lot 99 = .ok (.istore_n 3, 1) := by decide +kernel
theorem dX4_lot_100 : decode cX4_lot 100 = .ok (.return_, 1) := by decide +kernel
theorem dX4_purses_0 : decode cX4_purses 0 = .ok (.iconst 0, 1) := by decide +kernel
theorem dX4_purses_1 : decode cX4_purses 1 = .ok (.istore_n 1, 1) := by decide +kernel
theorem dX4_purses_2 : decode cX4_purses 2 = .ok (.iconst 0, 1) := by decide +kernel
theorem dX4_purses_3 : decode cX4_purses 3 = .ok (.istore_n 2, 1) := by decide +kernel
theorem dX4_purses_4 : decode cX4_purses 4 = .ok (.iload_n 2, 1) := by decide +kernel
theorem dX4_purses_5 : decode cX4_purses 5 = .ok (.aload_n 0, 1) := by decide +kernel
theorem dX4_purses_6 : decode cX4_purses 6 = .ok (.getfield 136, 3) := by decide +kernel
theorem dX4_purses_9 : decode cX4_purses 9 = .ok (.if_icmp .ge 20, 3) := by decide +kernel
theorem dX4_purses_12 : decode cX4_purses 12 = .ok (.iload_n 1, 1) := by decide +kernel
theorem dX4_purses_13 : decode cX4_purses 13 = .ok (.aload_n 0, 1) := by decide +kernel
theorem dX4_purses_14 : decode cX4_purses 14 = .ok (.getfield 38, 3) := by decide +kernel
theorem dX4_purses_17 : decode cX4_purses 17 = .ok (.iconst 1, 1) := by decide +kernel
theorem dX4_purses_18 : decode cX4_purses 18 = .ok (.iload_n 2, 1) := by decide +kernel
theorem dX4_purses_19 : decode cX4_purses 19 = .ok (.iadd, 1) := by decide +kernel
theorem dX4_purses_20 : decode cX4_purses 20 = .ok (.iaload, 1) := by decide +kernel
theorem dX4_purses_21 : decode cX4_purses 21 = .ok (.iadd, 1) := by decide +kernel
theorem dX4_purses_22 : decode cX4_purses 22 = .ok (.istore_n 1, 1) := by decide +kernel
theorem dX4_purses_23 : decode cX4_purses 23 = .ok (.iinc 2 1, 3) := by decide +kernel
theorem dX4_purses_26 : decode cX4_purses 26 = .ok (.goto (-22), 3) := by decide +kernel
theorem dX4_purses_29 : decode cX4_purses 29 = .ok (.iload_n 1, 1) := by decide +kernel
theorem dX4_purses_30 : decode cX4_purses 30 = .ok (.ireturn, 1) := by decide +kernel
theorem dX4_lots_0 : decode cX4_lots 0 = .ok (.iload_n 1, 1) := by decide +kernel
theorem dX4_lots_1 : decode cX4_lots 1 = .ok (.i2l, 1) := by decide +kernel
theorem dX4_lots_2 : decode cX4_lots 2 = .ok (.lconst 1, 1) := by decide +kernel
theorem dX4_lots_3 : decode cX4_lots 3 = .ok (.ldc2_w 202, 3) := by decide +kernel
theorem dX4_lots_6 : decode cX4_lots 6 = .ok (.invokestatic 74, 3) := by decide +kernel
theorem dX4_lots_9 : decode cX4_lots 9 = .ok (.ifCond .eq 15, 3) := by decide +kernel
theorem dX4_lots_12 : decode cX4_lots 12 = .ok (.iload_n 2, 1) := by decide +kernel
theorem dX4_lots_13 : decode cX4_lots 13 = .ok (.i2l, 1) := by decide +kernel
theorem dX4_lots_14 : decode cX4_lots 14 = .ok (.lconst 1, 1) := by decide +kernel
theorem dX4_lots_15 : decode cX4_lots 15 = .ok (.ldc2_w 251, 3) := by decide +kernel
theorem dX4_lots_18 : decode cX4_lots 18 = .ok (.invokestatic 74, 3) := by decide +kernel
theorem dX4_lots_21 : decode cX4_lots 21 = .ok (.ifCond .ne 5, 3) := by decide +kernel
theorem dX4_lots_24 : decode cX4_lots 24 = .ok (.iconst (-1), 1) := by decide +kernel
theorem dX4_lots_25 : decode cX4_lots 25 = .ok (.ireturn, 1) := by decide +kernel
theorem dX4_lots_26 : decode cX4_lots 26 = .ok (.aload_n 0, 1) := by decide +kernel
theorem dX4_lots_27 : decode cX4_lots 27 = .ok (.iload_n 1, 1) := by decide +kernel
theorem dX4_lots_28 : decode cX4_lots 28 = .ok (.invokevirtual 253, 3) := by decide +kernel
theorem dX4_lots_31 : decode cX4_lots 31 = .ok (.istore_n 3, 1) := by decide +kernel
theorem dX4_lots_32 : decode cX4_lots 32 = .ok (.iload_n 3, 1) := by decide +kernel
theorem dX4_lots_33 : decode cX4_lots 33 = .ok (.ifCond .eq 5, 3) := by decide +kernel
theorem dX4_lots_36 : decode cX4_lots 36 = .ok (.iload_n 3, 1) := by decide +kernel
theorem dX4_lots_37 : decode cX4_lots 37 = .ok (.ireturn, 1) := by decide +kernel
theorem dX4_lots_38 : decode cX4_lots 38 = .ok (.iload_n 2, 1) := by decide +kernel
theorem dX4_lots_39 : decode cX4_lots 39 = .ok (.i2l, 1) := by decide +kernel
theorem dX4_lots_40 : decode cX4_lots 40 = .ok (.lstore 4, 2) := by decide +kernel
theorem dX4_lots_42 : decode cX4_lots 42 = .ok (.iconst 0, 1) := by decide +kernel
theorem dX4_lots_43 : decode cX4_lots 43 = .ok (.istore 6, 2) := by decide +kernel
theorem dX4_lots_45 : decode cX4_lots 45 = .ok (.iload 6, 2) := by decide +kernel
theorem dX4_lots_47 : decode cX4_lots 47 = .ok (.iload_n 1, 1) := by decide +kernel
theorem dX4_lots_48 : decode cX4_lots 48 = .ok (.if_icmp .ge 28, 3) := by decide +kernel
theorem dX4_lots_51 : decode cX4_lots 51 = .ok (.lload 4, 2) := by decide +kernel
theorem dX4_lots_53 : decode cX4_lots 53 = .ok (.ldc2_w 256, 3) := by decide +kernel
theorem dX4_lots_56 : decode cX4_lots 56 = .ok (.lmul, 1) := by decide +kernel
theorem dX4_lots_57 : decode cX4_lots 57 = .ok (.ldc2_w 258, 3) := by decide +kernel
theorem dX4_lots_60 : decode cX4_lots 60 = .ok (.lrem, 1) := by decide +kernel
theorem dX4_lots_61 : decode cX4_lots 61 = .ok (.lstore 4, 2) := by decide +kernel
theorem dX4_lots_63 : decode cX4_lots 63 = .ok (.aload_n 0, 1) := by decide +kernel
theorem dX4_lots_64 : decode cX4_lots 64 = .ok (.lload 4, 2) := by decide +kernel
theorem dX4_lots_66 : decode cX4_lots 66 = .ok (.l2i, 1) := by decide +kernel
theorem dX4_lots_67 : decode cX4_lots 67 = .ok (.invokevirtual 260, 3) := by decide +kernel
theorem dX4_lots_70 : decode cX4_lots 70 = .ok (.iinc 6 1, 3) := by decide +kernel
theorem dX4_lots_73 : decode cX4_lots 73 = .ok (.goto (-28), 3) := by decide +kernel
theorem dX4_lots_76 : decode cX4_lots 76 = .ok (.aload_n 0, 1) := by decide +kernel
theorem dX4_lots_77 : decode cX4_lots 77 = .ok (.invokevirtual 264, 3) := by decide +kernel
theorem dX4_lots_80 : decode cX4_lots 80 = .ok (.ireturn, 1) := by decide +kernel
theorem dX4_asked_0 : decode cX4_asked 0 = .ok (.aload_n 0, 1) := by decide +kernel
theorem dX4_asked_1 : decode cX4_asked 1 = .ok (.getfield 69, 3) := by decide +kernel
theorem dX4_asked_4 : decode cX4_asked 4 = .ok (.ireturn, 1) := by decide +kernel
theorem dX4_upper_0 : decode cX4_upper 0 = .ok (.aload_n 0, 1) := by decide +kernel
theorem dX4_upper_1 : decode cX4_upper 1 = .ok (.getfield 234, 3) := by decide +kernel
theorem dX4_upper_4 : decode cX4_upper 4 = .ok (.lreturn, 1) := by decide +kernel
theorem dX4_lower_0 : decode cX4_lower 0 = .ok (.aload_n 0, 1) := by decide +kernel
theorem dX4_lower_1 : decode cX4_lower 1 = .ok (.getfield 22, 3) := by decide +kernel
theorem dX4_lower_4 : decode cX4_lower 4 = .ok (.lreturn, 1) := by decide +kernel
theorem dX4_there_0 : decode cX4_there 0 = .ok (.iconst 0, 1) := by decide +kernel
theorem dX4_there_1 : decode cX4_there 1 = .ok (.istore_n 3, 1) := by decide +kernel
theorem dX4_there_2 : decode cX4_there 2 = .ok (.iconst 0, 1) := by decide +kernel
theorem dX4_there_3 : decode cX4_there 3 = .ok (.istore 4, 2) := by decide +kernel
theorem dX4_there_5 : decode cX4_there 5 = .ok (.iload 4, 2) := by decide +kernel
theorem dX4_there_7 : decode cX4_there 7 = .ok (.iload_n 1, 1) := by decide +kernel
theorem dX4_there_8 : decode cX4_there 8 = .ok (.if_icmp .ge 26, 3) := by decide +kernel
theorem dX4_there_11 : decode cX4_there 11 = .ok (.iload_n 3, 1) := by decide +kernel
theorem dX4_there_12 : decode cX4_there 12 = .ok (.aload_n 0, 1) := by decide +kernel
theorem dX4_there_13 : decode cX4_there 13 = .ok (.iload_n 2, 1) := by decide +kernel
theorem dX4_there_14 : decode cX4_there 14 = .ok (.iload 4, 2) := by decide +kernel
theorem dX4_there_16 : decode cX4_there 16 = .ok (.imul, 1) := by decide +kernel
theorem dX4_there_17 : decode cX4_there 17 = .ok (.iaload, 1) := by decide +kernel
theorem dX4_there_18 : decode cX4_there 18 = .ok (.ifCond .ge 7, 3) := by decide +kernel
theorem dX4_there_21 : decode cX4_there 21 = .ok (.iconst 0, 1) := by decide +kernel
theorem dX4_there_22 : decode cX4_there 22 = .ok (.goto 4, 3) := by decide +kernel
theorem dX4_there_25 : decode cX4_there 25 = .ok (.iconst 1, 1) := by decide +kernel
theorem dX4_there_26 : decode cX4_there 26 = .ok (.iadd, 1) := by decide +kernel
theorem dX4_there_27 : decode cX4_there 27 = .ok (.istore_n 3, 1) := by decide +kernel
theorem dX4_there_28 : decode cX4_there 28 = .ok (.iinc 4 1, 3) := by decide +kernel
theorem dX4_there_31 : decode cX4_there 31 = .ok (.goto (-26), 3) := by decide +kernel
theorem dX4_there_34 : decode cX4_there 34 = .ok (.iload_n 3, 1) := by decide +kernel
theorem dX4_there_35 : decode cX4_there 35 = .ok (.ireturn, 1) := by decide +kernel
theorem dX4_ofKind_0 : decode cX4_ofKind 0 = .ok (.iconst 0, 1) := by decide +kernel
theorem dX4_ofKind_1 : decode cX4_ofKind 1 = .ok (.istore_n 2, 1) := by decide +kernel
theorem dX4_ofKind_2 : decode cX4_ofKind 2 = .ok (.iconst 0, 1) := by decide +kernel
theorem dX4_ofKind_3 : decode cX4_ofKind 3 = .ok (.istore_n 3, 1) := by decide +kernel
theorem dX4_ofKind_4 : decode cX4_ofKind 4 = .ok (.iload_n 3, 1) := by decide +kernel
theorem dX4_ofKind_5 : decode cX4_ofKind 5 = .ok (.aload_n 0, 1) := by decide +kernel
theorem dX4_ofKind_6 : decode cX4_ofKind 6 = .ok (.getfield 136, 3) := by decide +kernel
theorem dX4_ofKind_9 : decode cX4_ofKind 9 = .ok (.if_icmp .ge 30, 3) := by decide +kernel
theorem dX4_ofKind_12 : decode cX4_ofKind 12 = .ok (.iload_n 2, 1) := by decide +kernel
theorem dX4_ofKind_13 : decode cX4_ofKind 13 = .ok (.aload_n 0, 1) := by decide +kernel
theorem dX4_ofKind_14 : decode cX4_ofKind 14 = .ok (.getfield 29, 3) := by decide +kernel
theorem dX4_ofKind_17 : decode cX4_ofKind 17 = .ok (.iload_n 3, 1) := by decide +kernel
theorem dX4_ofKind_18 : decode cX4_ofKind 18 = .ok (.iaload, 1) := by decide +kernel
theorem dX4_ofKind_19 : decode cX4_ofKind 19 = .ok (.iload_n 1, 1) := by decide +kernel
theorem dX4_ofKind_20 : decode cX4_ofKind 20 = .ok (.invokestatic 168, 3) := by decide +kernel
theorem dX4_ofKind_23 : decode cX4_ofKind 23 = .ok (.ifCond .eq 7, 3) := by decide +kernel
theorem dX4_ofKind_26 : decode cX4_ofKind 26 = .ok (.iconst 1, 1) := by decide +kernel
theorem dX4_ofKind_27 : decode cX4_ofKind 27 = .ok (.goto 4, 3) := by decide +kernel
theorem dX4_ofKind_30 : decode cX4_ofKind 30 = .ok (.iconst 0, 1) := by decide +kernel
theorem dX4_ofKind_31 : decode cX4_ofKind 31 = .ok (.iadd, 1) := by decide +kernel
theorem dX4_ofKind_32 : decode cX4_ofKind 32 = .ok (.istore_n 2, 1) := by decide +kernel
theorem dX4_ofKind_33 : decode cX4_ofKind 33 = .ok (.iinc 3 1, 3) := by decide +kernel
theorem dX4_ofKind_36 : decode cX4_ofKind 36 = .ok (.goto (-32), 3) := by decide +kernel
theorem dX4_ofKind_39 : decode cX4_ofKind 39 = .ok (.iload_n 2, 1) := by decide +kernel
theorem dX4_ofKind_40 : decode cX4_ofKind 40 = .ok (.ireturn, 1) := by decide +kernel
theorem dX4_sooted_0 : decode cX4_sooted 0 = .ok (.iconst 0, 1) := by decide +kernel
theorem dX4_sooted_1 : decode cX4_sooted 1 = .ok (.istore_n 1, 1) := by decide +kernel
theorem dX4_sooted_2 : decode cX4_sooted 2 = .ok (.iconst 0, 1) := by decide +kernel
theorem dX4_sooted_3 : decode cX4_sooted 3 = .ok (.istore_n 2, 1) := by decide +kernel
theorem dX4_sooted_4 : decode cX4_sooted 4 = .ok (.iload_n 2, 1) := by decide +kernel
theorem dX4_sooted_5 : decode cX4_sooted 5 = .ok (.aload_n 0, 1) := by decide +kernel
theorem dX4_sooted_6 : decode cX4_sooted 6 = .ok (.getfield 136, 3) := by decide +kernel
theorem dX4_sooted_9 : decode cX4_sooted 9 = .ok (.if_icmp .ge 31, 3) := by decide +kernel
theorem dX4_sooted_12 : decode cX4_sooted 12 = .ok (.iload_n 1, 1) := by decide +kernel
theorem dX4_sooted_13 : decode cX4_sooted 13 = .ok (.aload_n 0, 1) := by decide +kernel
theorem dX4_sooted_14 : decode cX4_sooted 14 = .ok (.getfield 38, 3) := by decide +kernel
theorem dX4_sooted_17 : decode cX4_sooted 17 = .ok (.bipush 7, 2) := by decide +kernel
theorem dX4_sooted_19 : decode cX4_sooted 19 = .ok (.iload_n 2, 1) := by decide +kernel
theorem dX4_sooted_20 : decode cX4_sooted 20 = .ok (.iadd, 1) := by decide +kernel
theorem dX4_sooted_21 : decode cX4_sooted 21 = .ok (.iaload, 1) := by decide +kernel
theorem dX4_sooted_22 : decode cX4_sooted 22 = .ok (.ifCond .le 9, 3) := by decide +kernel
theorem dX4_sooted_25 : decode cX4_sooted 25 = .ok (.iconst 1, 1) := by decide +kernel
theorem dX4_sooted_26 : decode cX4_sooted 26 = .ok (.iload_n 2, 1) := by decide +kernel
theorem dX4_sooted_27 : decode cX4_sooted 27 = .ok (.ishl, 1) := by decide +kernel
theorem dX4_sooted_28 : decode cX4_sooted 28 = .ok (.goto 4, 3) := by decide +kernel
theorem dX4_sooted_31 : decode cX4_sooted 31 = .ok (.iconst 0, 1) := by decide +kernel
theorem dX4_sooted_32 : decode cX4_sooted 32 = .ok (.ior, 1) := by decide +kernel
theorem dX4_sooted_33 : decode cX4_sooted 33 = .ok (.istore_n 1, 1) := by decide +kernel
theorem dX4_sooted_34 : decode cX4_sooted 34 = .ok (.iinc 2 1, 3) := by decide +kernel
theorem dX4_sooted_37 : decode cX4_sooted 37 = .ok (.goto (-33), 3) := by decide +kernel
theorem dX4_sooted_40 : decode cX4_sooted 40 = .ok (.iload_n 1, 1) := by decide +kernel
theorem dX4_sooted_41 : decode cX4_sooted 41 = .ok (.ireturn, 1) := by decide +kernel
theorem dX4_count_0 : decode cX4_count 0 = .ok (.iload_n 1, 1) := by decide +kernel
theorem dX4_count_1 : decode cX4_count 1 = .ok (.tableswitch 140 0 10 #[59, 64, 71, 76, 81, 86, 95, 106, 116, 128, 134], 59) := by decide +kernel
theorem dX4_count_60 : decode cX4_count 60 = .ok (.aload_n 0, 1) := by decide +kernel
theorem dX4_count_61 : decode cX4_count 61 = .ok (.getfield 136, 3) := by decide +kernel
theorem dX4_count_64 : decode cX4_count 64 = .ok (.ireturn, 1) := by decide +kernel
theorem dX4_count_65 : decode cX4_count 65 = .ok (.aload_n 0, 1) := by decide +kernel
theorem dX4_count_66 : decode cX4_count 66 = .ok (.getfield 38, 3) := by decide +kernel
theorem dX4_count_69 : decode cX4_count 69 = .ok (.iconst 0, 1) := by decide +kernel
theorem dX4_count_70 : decode cX4_count 70 = .ok (.iaload, 1) := by decide +kernel
theorem dX4_count_71 : decode cX4_count 71 = .ok (.ireturn, 1) := by decide +kernel
theorem dX4_count_72 : decode cX4_count 72 = .ok (.aload_n 0, 1) := by decide +kernel
theorem dX4_count_73 : decode cX4_count 73 = .ok (.getfield 94, 3) := by decide +kernel
theorem dX4_count_76 : decode cX4_count 76 = .ok (.ireturn, 1) := by decide +kernel
theorem dX4_count_77 : decode cX4_count 77 = .ok (.aload_n 0, 1) := by decide +kernel
theorem dX4_count_78 : decode cX4_count 78 = .ok (.invokevirtual 264, 3) := by decide +kernel
theorem dX4_count_81 : decode cX4_count 81 = .ok (.ireturn, 1) := by decide +kernel
theorem dX4_count_82 : decode cX4_count 82 = .ok (.aload_n 0, 1) := by decide +kernel
theorem dX4_count_83 : decode cX4_count 83 = .ok (.invokevirtual 267, 3) := by decide +kernel
theorem dX4_count_86 : decode cX4_count 86 = .ok (.ireturn, 1) := by decide +kernel
theorem dX4_count_87 : decode cX4_count 87 = .ok (.aload_n 0, 1) := by decide +kernel
theorem dX4_count_88 : decode cX4_count 88 = .ok (.aload_n 0, 1) := by decide +kernel
theorem dX4_count_89 : decode cX4_count 89 = .ok (.getfield 38, 3) := by decide +kernel
theorem dX4_count_92 : decode cX4_count 92 = .ok (.invokevirtual 150, 3) := by decide +kernel
theorem dX4_count_95 : decode cX4_count 95 = .ok (.ireturn, 1) := by decide +kernel
theorem dX4_count_96 : decode cX4_count 96 = .ok (.aload_n 0, 1) := by decide +kernel
theorem dX4_count_97 : decode cX4_count 97 = .ok (.getfield 13, 3) := by decide +kernel
theorem dX4_count_100 : decode cX4_count 100 = .ok (.bipush 6, 2) := by decide +kernel
theorem dX4_count_102 : decode cX4_count 102 = .ok (.iconst 1, 1) := by decide +kernel
theorem dX4_count_103 : decode cX4_count 103 = .ok (.invokestatic 270, 3) := by decide +kernel
theorem dX4_count_106 : decode cX4_count 106 = .ok (.ireturn, 1) := by decide +kernel
theorem dX4_count_107 : decode cX4_count 107 = .ok (.aload_n 0, 1) := by decide +kernel
theorem dX4_count_108 : decode cX4_count 108 = .ok (.getfield 19, 3) := by decide +kernel
theorem dX4_count_111 : decode cX4_count 111 = .ok (.iconst 4, 1) := by decide +kernel
theorem dX4_count_112 : decode cX4_count 112 = .ok (.iconst 1, 1) := by decide +kernel
theorem dX4_count_113 : decode cX4_count 113 = .ok (.invokestatic 270, 3) := by decide +kernel
theorem dX4_count_116 : decode cX4_count 116 = .ok (.ireturn, 1) := by decide +kernel
theorem dX4_count_117 : decode cX4_count 117 = .ok (.aload_n 0, 1) := by decide +kernel
theorem dX4_count_118 : decode cX4_count 118 = .ok (.getfield 50, 3) := by decide +kernel
theorem dX4_count_121 : decode cX4_count 121 = .ok (.iconst 3, 1) := by decide +kernel
theorem dX4_count_122 : decode cX4_count 122 = .ok (.sipush 534, 3) := by decide +kernel
theorem dX4_count_125 : decode cX4_count 125 = .ok (.invokestatic 270, 3) := by decide +kernel
theorem dX4_count_128 : decode cX4_count 128 = .ok (.ireturn, 1) := by decide +kernel
theorem dX4_count_129 : decode cX4_count 129 = .ok (.aload_n 0, 1) := by decide +kernel
theorem dX4_count_130 : decode cX4_count 130 = .ok (.iconst 1, 1) := by decide +kernel
theorem dX4_count_131 : decode cX4_count 131 = .ok (.invokevirtual 274, 3) := by decide +kernel
theorem dX4_count_134 : decode cX4_count 134 = .ok (.ireturn, 1) := by decide +kernel
theorem dX4_count_135 : decode cX4_count 135 = .ok (.aload_n 0, 1) := by decide +kernel
theorem dX4_count_136 : decode cX4_count 136 = .ok (.iconst 3, 1) := by decide +kernel
theorem dX4_count_137 : decode cX4_count 137 = .ok (.invokevirtual 274, 3) := by decide +kernel
theorem dX4_count_140 : decode cX4_count 140 = .ok (.ireturn, 1) := by decide +kernel
theorem dX4_count_141 : decode cX4_count 141 = .ok (.iconst (-1), 1) := by decide +kernel
theorem dX4_count_142 : decode cX4_count 142 = .ok (.ireturn, 1) := by decide +kernel
theorem dX4_finding_0 : decode cX4_finding 0 = .ok (.aload_n 0, 1) := by decide +kernel
theorem dX4_finding_1 : decode cX4_finding 1 = .ok (.getfield 65, 3) := by decide +kernel
theorem dX4_finding_4 : decode cX4_finding 4 = .ok (.ireturn, 1) := by decide +kernel
theorem dX4_findings_0 : decode cX4_findings 0 = .ok (.iload_n 1, 1) := by decide +kernel
theorem dX4_findings_1 : decode cX4_findings 1 = .ok (.i2l, 1) := by decide +kernel
theorem dX4_findings_2 : decode cX4_findings 2 = .ok (.lconst 1, 1) := by decide +kernel
theorem dX4_findings_3 : decode cX4_findings 3 = .ok (.ldc2_w 72, 3) := by decide +kernel
theorem dX4_findings_6 : decode cX4_findings 6 = .ok (.invokestatic 74, 3) := by decide +kernel
theorem dX4_findings_9 : decode cX4_findings 9 = .ok (.ifCond .eq 12, 3) := by decide +kernel
theorem dX4_findings_12 : decode cX4_findings 12 = .ok (.aload_n 0, 1) := by decide +kernel
theorem dX4_findings_13 : decode cX4_findings 13 = .ok (.getfield 26, 3) := by decide +kernel
theorem dX4_findings_16 : decode cX4_findings 16 = .ok (.iload_n 1, 1) := by decide +kernel
theorem dX4_findings_17 : decode cX4_findings 17 = .ok (.iaload, 1) := by decide +kernel
theorem dX4_findings_18 : decode cX4_findings 18 = .ok (.goto 4, 3) := by decide +kernel
theorem dX4_findings_21 : decode cX4_findings 21 = .ok (.iconst (-1), 1) := by decide +kernel
theorem dX4_findings_22 : decode cX4_findings 22 = .ok (.ireturn, 1) := by decide +kernel
theorem dX4_digest_0 : decode cX4_digest 0 = .ok (.ldc2_w 277, 3) := by decide +kernel
theorem dX4_digest_3 : decode cX4_digest 3 = .ok (.lstore_n 1, 1) := by decide +kernel
theorem dX4_digest_4 : decode cX4_digest 4 = .ok (.iconst 0, 1) := by decide +kernel
theorem dX4_digest_5 : decode cX4_digest 5 = .ok (.istore_n 3, 1) := by decide +kernel
theorem dX4_digest_6 : decode cX4_digest 6 = .ok (.iload_n 3, 1) := by decide +kernel
theorem dX4_digest_7 : decode cX4_digest 7 = .ok (.bipush 11, 2) := by decide +kernel
theorem dX4_digest_9 : decode cX4_digest 9 = .ok (.if_icmp .ge 22, 3) := by decide +kernel
theorem dX4_digest_12 : decode cX4_digest 12 = .ok (.ldc2_w 279, 3) := by decide +kernel
theorem dX4_digest_15 : decode cX4_digest 15 = .ok (.lload_n 1, 1) := by decide +kernel
theorem dX4_digest_16 : decode cX4_digest 16 = .ok (.lmul, 1) := by decide +kernel
theorem dX4_digest_17 : decode cX4_digest 17 = .ok (.aload_n 0, 1) := by decide +kernel
theorem dX4_digest_18 : decode cX4_digest 18 = .ok (.iload_n 3, 1) := by decide +kernel
theorem dX4_digest_19 : decode cX4_digest 19 = .ok (.invokevirtual 281, 3) := by decide +kernel
theorem dX4_digest_22 : decode cX4_digest 22 = .ok (.i2l, 1) := by decide +kernel
theorem dX4_digest_23 : decode cX4_digest 23 = .ok (.ladd, 1) := by decide +kernel
theorem dX4_digest_24 : decode cX4_digest 24 = .ok (.lstore_n 1, 1) := by decide +kernel
theorem dX4_digest_25 : decode cX4_digest 25 = .ok (.iinc 3 1, 3) := by decide +kernel
theorem dX4_digest_28 : decode cX4_digest 28 = .ok (.goto (-22), 3) := by decide +kernel
theorem dX4_digest_31 : decode cX4_digest 31 = .ok (.iconst 0, 1) := by decide +kernel
theorem dX4_digest_32 : decode cX4_digest 32 = .ok (.istore_n 3, 1) := by decide +kernel
theorem dX4_digest_33 : decode cX4_digest 33 = .ok (.iload_n 3, 1) := by decide +kernel
theorem dX4_digest_34 : decode cX4_digest 34 = .ok (.aload_n 0, 1) := by decide +kernel
theorem dX4_digest_35 : decode cX4_digest 35 = .ok (.getfield 136, 3) := by decide +kernel
theorem dX4_digest_38 : decode cX4_digest 38 = .ok (.if_icmp .ge 106, 3) := by decide +kernel
theorem dX4_digest_41 : decode cX4_digest 41 = .ok (.ldc2_w 279, 3) := by decide +kernel
theorem dX4_digest_44 : decode cX4_digest 44 = .ok (.ldc2_w 279, 3) := by decide +kernel
theorem dX4_digest_47 : decode cX4_digest 47 = .ok (.ldc2_w 279, 3) := by decide +kernel
theorem dX4_digest_50 : decode cX4_digest 50 = .ok (.ldc2_w 279, 3) := by decide +kernel
theorem dX4_digest_53 : decode cX4_digest 53 = .ok (.lload_n 1, 1) := by decide +kernel
theorem dX4_digest_54 : decode cX4_digest 54 = .ok (.lmul, 1) := by decide +kernel
theorem dX4_digest_55 : decode cX4_digest 55 = .ok (.aload_n 0, 1) := by decide +kernel
theorem dX4_digest_56 : decode cX4_digest 56 = .ok (.getfield 29, 3) := by decide +kernel
theorem dX4_digest_59 : decode cX4_digest 59 = .ok (.iload_n 3, 1) := by decide +kernel
theorem dX4_digest_60 : decode cX4_digest 60 = .ok (.iaload, 1) := by decide +kernel
theorem dX4_digest_61 : decode cX4_digest 61 = .ok (.i2l, 1) := by decide +kernel
theorem dX4_digest_62 : decode cX4_digest 62 = .ok (.ladd, 1) := by decide +kernel
theorem dX4_digest_63 : decode cX4_digest 63 = .ok (.lmul, 1) := by decide +kernel
theorem dX4_digest_64 : decode cX4_digest 64 = .ok (.aload_n 0, 1) := by decide +kernel
theorem dX4_digest_65 : decode cX4_digest 65 = .ok (.getfield 32, 3) := by decide +kernel
theorem dX4_digest_68 : decode cX4_digest 68 = .ok (.iload_n 3, 1) := by decide +kernel
theorem dX4_digest_69 : decode cX4_digest 69 = .ok (.iaload, 1) := by decide +kernel
theorem dX4_digest_70 : decode cX4_digest 70 = .ok (.i2l, 1) := by decide +kernel
theorem dX4_digest_71 : decode cX4_digest 71 = .ok (.ladd, 1) := by decide +kernel
theorem dX4_digest_72 : decode cX4_digest 72 = .ok (.lmul, 1) := by decide +kernel
theorem dX4_digest_73 : decode cX4_digest 73 = .ok (.aload_n 0, 1) := by decide +kernel
theorem dX4_digest_74 : decode cX4_digest 74 = .ok (.getfield 35, 3) := by decide +kernel
theorem dX4_digest_77 : decode cX4_digest 77 = .ok (.iload_n 3, 1) := by decide +kernel
theorem dX4_digest_78 : decode cX4_digest 78 = .ok (.iaload, 1) := by decide +kernel
theorem dX4_digest_79 : decode cX4_digest 79 = .ok (.i2l, 1) := by decide +kernel
theorem dX4_digest_80 : decode cX4_digest 80 = .ok (.ladd, 1) := by decide +kernel
theorem dX4_digest_81 : decode cX4_digest 81 = .ok (.lmul, 1) := by decide +kernel
theorem dX4_digest_82 : decode cX4_digest 82 = .ok (.aload_n 0, 1) := by decide +kernel
theorem dX4_digest_83 : decode cX4_digest 83 = .ok (.getfield 38, 3) := by decide +kernel
theorem dX4_digest_86 : decode cX4_digest 86 = .ok (.iconst 1, 1) := by decide +kernel
theorem dX4_digest_87 : decode cX4_digest 87 = .ok (.iload_n 3, 1) := by decide +kernel
theorem dX4_digest_88 : decode cX4_digest 88 = .ok (.iadd, 1) := by decide +kernel
theorem dX4_digest_89 : decode cX4_digest 89 = .ok (.iaload, 1) := by decide +kernel
theorem dX4_digest_90 : decode cX4_digest 90 = .ok (.i2l, 1) := by decide +kernel
theorem dX4_digest_91 : decode cX4_digest 91 = .ok (.ladd, 1) := by decide +kernel
theorem dX4_digest_92 : decode cX4_digest 92 = .ok (.lstore_n 1, 1) := by decide +kernel
theorem dX4_digest_93 : decode cX4_digest 93 = .ok (.ldc2_w 279, 3) := by decide +kernel
theorem dX4_digest_96 : decode cX4_digest 96 = .ok (.ldc2_w 279, 3) := by decide +kernel
theorem dX4_digest_99 : decode cX4_digest 99 = .ok (.ldc2_w 279, 3) := by decide +kernel
theorem dX4_digest_102 : decode cX4_digest 102 = .ok (.lload_n 1, 1) := by decide +kernel
theorem dX4_digest_103 : decode cX4_digest 103 = .ok (.lmul, 1) := by decide +kernel
theorem dX4_digest_104 : decode cX4_digest 104 = .ok (.aload_n 0, 1) := by decide +kernel
theorem dX4_digest_105 : decode cX4_digest 105 = .ok (.getfield 38, 3) := by decide +kernel
theorem dX4_digest_108 : decode cX4_digest 108 = .ok (.bipush 7, 2) := by decide +kernel
theorem dX4_digest_110 : decode cX4_digest 110 = .ok (.iload_n 3, 1) := by decide +kernel
theorem dX4_digest_111 : decode cX4_digest 111 = .ok (.iadd, 1) := by decide +kernel
theorem dX4_digest_112 : decode cX4_digest 112 = .ok (.iaload, 1) := by decide +kernel
theorem dX4_digest_113 : decode cX4_digest 113 = .ok (.i2l, 1) := by decide +kernel
theorem dX4_digest_114 : decode cX4_digest 114 = .ok (.ladd, 1) := by decide +kernel
theorem dX4_digest_115 : decode cX4_digest 115 = .ok (.lmul, 1) := by decide +kernel
theorem dX4_digest_116 : decode cX4_digest 116 = .ok (.aload_n 0, 1) := by decide +kernel
theorem dX4_digest_117 : decode cX4_digest 117 = .ok (.aload_n 0, 1) := by decide +kernel
theorem dX4_digest_118 : decode cX4_digest 118 = .ok (.getfield 29, 3) := by decide +kernel
theorem dX4_digest_121 : decode cX4_digest 121 = .ok (.iload_n 3, 1) := by decide +kernel
theorem dX4_digest_122 : decode cX4_digest 122 = .ok (.iaload, 1) := by decide +kernel
theorem dX4_digest_123 : decode cX4_digest 123 = .ok (.iload_n 3, 1) := by decide +kernel
theorem dX4_digest_124 : decode cX4_digest 124 = .ok (.invokevirtual 162, 3) := by decide +kernel
theorem dX4_digest_127 : decode cX4_digest 127 = .ok (.i2l, 1) := by decide +kernel
theorem dX4_digest_128 : decode cX4_digest 128 = .ok (.ladd, 1) := by decide +kernel
theorem dX4_digest_129 : decode cX4_digest 129 = .ok (.lmul, 1) := by decide +kernel
theorem dX4_digest_130 : decode cX4_digest 130 = .ok (.aload_n 0, 1) := by decide +kernel
theorem dX4_digest_131 : decode cX4_digest 131 = .ok (.iload_n 3, 1) := by decide +kernel
theorem dX4_digest_132 : decode cX4_digest 132 = .ok (.invokevirtual 165, 3) := by decide +kernel
theorem dX4_digest_135 : decode cX4_digest 135 = .ok (.i2l, 1) := by decide +kernel
theorem dX4_digest_136 : decode cX4_digest 136 = .ok (.ladd, 1) := by decide +kernel
theorem dX4_digest_137 : decode cX4_digest 137 = .ok (.lstore_n 1, 1) := by decide +kernel
theorem dX4_digest_138 : decode cX4_digest 138 = .ok (.iinc 3 1, 3) := by decide +kernel
theorem dX4_digest_141 : decode cX4_digest 141 = .ok (.goto (-108), 3) := by decide +kernel
theorem dX4_digest_144 : decode cX4_digest 144 = .ok (.iconst 0, 1) := by decide +kernel
theorem dX4_digest_145 : decode cX4_digest 145 = .ok (.istore_n 3, 1) := by decide +kernel
theorem dX4_digest_146 : decode cX4_digest 146 = .ok (.iload_n 3, 1) := by decide +kernel
theorem dX4_digest_147 : decode cX4_digest 147 = .ok (.iconst 3, 1) := by decide +kernel
theorem dX4_digest_148 : decode cX4_digest 148 = .ok (.if_icmp .ge 27, 3) := by decide +kernel
theorem dX4_digest_151 : decode cX4_digest 151 = .ok (.ldc2_w 279, 3) := by decide +kernel
theorem dX4_digest_154 : decode cX4_digest 154 = .ok (.lload_n 1, 1) := by decide +kernel
theorem dX4_digest_155 : decode cX4_digest 155 = .ok (.lmul, 1) := by decide +kernel
theorem dX4_digest_156 : decode cX4_digest 156 = .ok (.aload_n 0, 1) := by decide +kernel
theorem dX4_digest_157 : decode cX4_digest 157 = .ok (.getfield 50, 3) := by decide +kernel
theorem dX4_digest_160 : decode cX4_digest 160 = .ok (.sipush 534, 3) := by decide +kernel
theorem dX4_digest_163 : decode cX4_digest 163 = .ok (.iload_n 3, 1) := by decide +kernel
theorem dX4_digest_164 : decode cX4_digest 164 = .ok (.imul, 1) := by decide +kernel
theorem dX4_digest_165 : decode cX4_digest 165 = .ok (.iaload, 1) := by decide +kernel
theorem dX4_digest_166 : decode cX4_digest 166 = .ok (.i2l, 1) := by decide +kernel
theorem dX4_digest_167 : decode cX4_digest 167 = .ok (.ladd, 1) := by decide +kernel
theorem dX4_digest_168 : decode cX4_digest 168 = .ok (.lstore_n 1, 1) := by decide +kernel
theorem dX4_digest_169 : decode cX4_digest 169 = .ok (.iinc 3 1, 3) := by decide +kernel
theorem dX4_digest_172 : decode cX4_digest 172 = .ok (.goto (-26), 3) := by decide +kernel
theorem dX4_digest_175 : decode cX4_digest 175 = .ok (.iconst 0, 1) := by decide +kernel
theorem dX4_digest_176 : decode cX4_digest 176 = .ok (.istore_n 3, 1) := by decide +kernel
theorem dX4_digest_177 : decode cX4_digest 177 = .ok (.iload_n 3, 1) := by decide +kernel
theorem dX4_digest_178 : decode cX4_digest 178 = .ok (.bipush 6, 2) := by decide +kernel
theorem dX4_digest_180 : decode cX4_digest 180 = .ok (.if_icmp .ge 63, 3) := by decide +kernel
theorem dX4_digest_183 : decode cX4_digest 183 = .ok (.ldc2_w 279, 3) := by decide +kernel
theorem dX4_digest_186 : decode cX4_digest 186 = .ok (.lload_n 1, 1) := by decide +kernel
theorem dX4_digest_187 : decode cX4_digest 187 = .ok (.lmul, 1) := by decide +kernel
theorem dX4_digest_188 : decode cX4_digest 188 = .ok (.aload_n 0, 1) := by decide +kernel
theorem dX4_digest_189 : decode cX4_digest 189 = .ok (.getfield 13, 3) := by decide +kernel
theorem dX4_digest_192 : decode cX4_digest 192 = .ok (.iload_n 3, 1) := by decide +kernel
theorem dX4_digest_193 : decode cX4_digest 193 = .ok (.iaload, 1) := by decide +kernel
theorem dX4_digest_194 : decode cX4_digest 194 = .ok (.i2l, 1) := by decide +kernel
theorem dX4_digest_195 : decode cX4_digest 195 = .ok (.ladd, 1) := by decide +kernel
theorem dX4_digest_196 : decode cX4_digest 196 = .ok (.lstore_n 1, 1) := by decide +kernel
theorem dX4_digest_197 : decode cX4_digest 197 = .ok (.iconst 0, 1) := by decide +kernel
theorem dX4_digest_198 : decode cX4_digest 198 = .ok (.istore 4, 2) := by decide +kernel
theorem dX4_digest_200 : decode cX4_digest 200 = .ok (.iload 4, 2) := by decide +kernel
theorem dX4_digest_202 : decode cX4_digest 202 = .ok (.aload_n 0, 1) := by decide +kernel
theorem dX4_digest_203 : decode cX4_digest 203 = .ok (.getfield 13, 3) := by decide +kernel
theorem dX4_digest_206 : decode cX4_digest 206 = .ok (.iload_n 3, 1) := by decide +kernel
theorem dX4_digest_207 : decode cX4_digest 207 = .ok (.iaload, 1) := by decide +kernel
theorem dX4_digest_208 : decode cX4_digest 208 = .ok (.if_icmp .ge 29, 3) := by decide +kernel
theorem dX4_digest_211 : decode cX4_digest 211 = .ok (.ldc2_w 279, 3) := by decide +kernel
theorem dX4_digest_214 : decode cX4_digest 214 = .ok (.lload_n 1, 1) := by decide +kernel
theorem dX4_digest_215 : decode cX4_digest 215 = .ok (.lmul, 1) := by decide +kernel
theorem dX4_digest_216 : decode cX4_digest 216 = .ok (.aload_n 0, 1) := by decide +kernel
theorem dX4_digest_217 : decode cX4_digest 217 = .ok (.getfield 7, 3) := by decide +kernel
theorem dX4_digest_220 : decode cX4_digest 220 = .ok (.bipush 40, 2) := by decide +kernel
theorem dX4_digest_222 : decode cX4_digest 222 = .ok (.iload_n 3, 1) := by decide +kernel
theorem dX4_digest_223 : decode cX4_digest 223 = .ok (.imul, 1) := by decide +kernel
theorem dX4_digest_224 : decode cX4_digest 224 = .ok (.iload 4, 2) := by decide +kernel
theorem dX4_digest_226 : decode cX4_digest 226 = .ok (.iadd, 1) := by decide +kernel
theorem dX4_digest_227 : decode cX4_digest 227 = .ok (.iaload, 1) := by decide +kernel
theorem dX4_digest_228 : decode cX4_digest 228 = .ok (.i2l, 1) := by decide +kernel
theorem dX4_digest_229 : decode cX4_digest 229 = .ok (.ladd, 1) := by decide +kernel
theorem dX4_digest_230 : decode cX4_digest 230 = .ok (.lstore_n 1, 1) := by decide +kernel
theorem dX4_digest_231 : decode cX4_digest 231 = .ok (.iinc 4 1, 3) := by decide +kernel
theorem dX4_digest_234 : decode cX4_digest 234 = .ok (.goto (-34), 3) := by decide +kernel
theorem dX4_digest_237 : decode cX4_digest 237 = .ok (.iinc 3 1, 3) := by decide +kernel
theorem dX4_digest_240 : decode cX4_digest 240 = .ok (.goto (-63), 3) := by decide +kernel
theorem dX4_digest_243 : decode cX4_digest 243 = .ok (.iconst 0, 1) := by decide +kernel
theorem dX4_digest_244 : decode cX4_digest 244 = .ok (.istore_n 3, 1) := by decide +kernel
theorem dX4_digest_245 : decode cX4_digest 245 = .ok (.iload_n 3, 1) := by decide +kernel
theorem dX4_digest_246 : decode cX4_digest 246 = .ok (.iconst 4, 1) := by decide +kernel
theorem dX4_digest_247 : decode cX4_digest 247 = .ok (.if_icmp .ge 63, 3) := by decide +kernel
theorem dX4_digest_250 : decode cX4_digest 250 = .ok (.ldc2_w 279, 3) := by decide +kernel
theorem dX4_digest_253 : decode cX4_digest 253 = .ok (.lload_n 1, 1) := by decide +kernel
theorem dX4_digest_254 : decode cX4_digest 254 = .ok (.lmul, 1) := by decide +kernel
theorem dX4_digest_255 : decode cX4_digest 255 = .ok (.aload_n 0, 1) := by decide +kernel
theorem dX4_digest_256 : decode cX4_digest 256 = .ok (.getfield 19, 3) := by decide +kernel
theorem dX4_digest_259 : decode cX4_digest 259 = .ok (.iload_n 3, 1) := by decide +kernel
theorem dX4_digest_260 : decode cX4_digest 260 = .ok (.iaload, 1) := by decide +kernel
theorem dX4_digest_261 : decode cX4_digest 261 = .ok (.i2l, 1) := by decide +kernel
theorem dX4_digest_262 : decode cX4_digest 262 = .ok (.ladd, 1) := by decide +kernel
theorem dX4_digest_263 : decode cX4_digest 263 = .ok (.lstore_n 1, 1) := by decide +kernel
theorem dX4_digest_264 : decode cX4_digest 264 = .ok (.iconst 0, 1) := by decide +kernel
theorem dX4_digest_265 : decode cX4_digest 265 = .ok (.istore 4, 2) := by decide +kernel
theorem dX4_digest_267 : decode cX4_digest 267 = .ok (.iload 4, 2) := by decide +kernel
theorem dX4_digest_269 : decode cX4_digest 269 = .ok (.aload_n 0, 1) := by decide +kernel
theorem dX4_digest_270 : decode cX4_digest 270 = .ok (.getfield 19, 3) := by decide +kernel
theorem dX4_digest_273 : decode cX4_digest 273 = .ok (.iload_n 3, 1) := by decide +kernel
theorem dX4_digest_274 : decode cX4_digest 274 = .ok (.iaload, 1) := by decide +kernel
theorem dX4_digest_275 : decode cX4_digest 275 = .ok (.if_icmp .ge 29, 3) := by decide +kernel
theorem dX4_digest_278 : decode cX4_digest 278 = .ok (.ldc2_w 279, 3) := by decide +kernel
theorem dX4_digest_281 : decode cX4_digest 281 = .ok (.lload_n 1, 1) := by decide +kernel
theorem dX4_digest_282 : decode cX4_digest 282 = .ok (.lmul, 1) := by decide +kernel
theorem dX4_digest_283 : decode cX4_digest 283 = .ok (.aload_n 0, 1) := by decide +kernel
theorem dX4_digest_284 : decode cX4_digest 284 = .ok (.getfield 16, 3) := by decide +kernel
theorem dX4_digest_287 : decode cX4_digest 287 = .ok (.bipush 60, 2) := by decide +kernel
theorem dX4_digest_289 : decode cX4_digest 289 = .ok (.iload_n 3, 1) := by decide +kernel
theorem dX4_digest_290 : decode cX4_digest 290 = .ok (.imul, 1) := by decide +kernel
theorem dX4_digest_291 : decode cX4_digest 291 = .ok (.iload 4, 2) := by decide +kernel
theorem dX4_digest_293 : decode cX4_digest 293 = .ok (.iadd, 1) := by decide +kernel
theorem dX4_digest_294 : decode cX4_digest 294 = .ok (.iaload, 1) := by decide +kernel
theorem dX4_digest_295 : decode cX4_digest 295 = .ok (.i2l, 1) := by decide +kernel
theorem dX4_digest_296 : decode cX4_digest 296 = .ok (.ladd, 1) := by decide +kernel
theorem dX4_digest_297 : decode cX4_digest 297 = .ok (.lstore_n 1, 1) := by decide +kernel
theorem dX4_digest_298 : decode cX4_digest 298 = .ok (.iinc 4 1, 3) := by decide +kernel
theorem dX4_digest_301 : decode cX4_digest 301 = .ok (.goto (-34), 3) := by decide +kernel
theorem dX4_digest_304 : decode cX4_digest 304 = .ok (.iinc 3 1, 3) := by decide +kernel
theorem dX4_digest_307 : decode cX4_digest 307 = .ok (.goto (-62), 3) := by decide +kernel
theorem dX4_digest_310 : decode cX4_digest 310 = .ok (.lload_n 1, 1) := by decide +kernel
theorem dX4_digest_311 : decode cX4_digest 311 = .ok (.lreturn, 1) := by decide +kernel
