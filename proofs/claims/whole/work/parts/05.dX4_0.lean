theorem dX4_init_0 : decode cX4_init 0 = .ok (.aload_n 0, 1) := by decide +kernel
theorem dX4_init_1 : decode cX4_init 1 = .ok (.invokespecial 1, 3) := by decide +kernel
theorem dX4_init_4 : decode cX4_init 4 = .ok (.aload_n 0, 1) := by decide +kernel
theorem dX4_init_5 : decode cX4_init 5 = .ok (.sipush 240, 3) := by decide +kernel
theorem dX4_init_8 : decode cX4_init 8 = .ok (.newarray .int, 2) := by decide +kernel
theorem dX4_init_10 : decode cX4_init 10 = .ok (.putfield 7, 3) := by decide +kernel
theorem dX4_init_13 : decode cX4_init 13 = .ok (.aload_n 0, 1) := by decide +kernel
theorem dX4_init_14 : decode cX4_init 14 = .ok (.bipush 6, 2) := by decide +kernel
theorem dX4_init_16 : decode cX4_init 16 = .ok (.newarray .int, 2) := by decide +kernel
theorem dX4_init_18 : decode cX4_init 18 = .ok (.putfield 13, 3) := by decide +kernel
theorem dX4_init_21 : decode cX4_init 21 = .ok (.aload_n 0, 1) := by decide +kernel
theorem dX4_init_22 : decode cX4_init 22 = .ok (.sipush 240, 3) := by decide +kernel
theorem dX4_init_25 : decode cX4_init 25 = .ok (.newarray .int, 2) := by decide +kernel
theorem dX4_init_27 : decode cX4_init 27 = .ok (.putfield 16, 3) := by decide +kernel
theorem dX4_init_30 : decode cX4_init 30 = .ok (.aload_n 0, 1) := by decide +kernel
theorem dX4_init_31 : decode cX4_init 31 = .ok (.iconst 4, 1) := by decide +kernel
theorem dX4_init_32 : decode cX4_init 32 = .ok (.newarray .int, 2) := by decide +kernel
theorem dX4_init_34 : decode cX4_init 34 = .ok (.putfield 19, 3) := by decide +kernel
theorem dX4_init_37 : decode cX4_init 37 = .ok (.aload_n 0, 1) := by decide +kernel
theorem dX4_init_38 : decode cX4_init 38 = .ok (.lconst 1, 1) := by decide +kernel
theorem dX4_init_39 : decode cX4_init 39 = .ok (.putfield 22, 3) := by decide +kernel
theorem dX4_init_42 : decode cX4_init 42 = .ok (.aload_n 0, 1) := by decide +kernel
theorem dX4_init_43 : decode cX4_init 43 = .ok (.bipush 6, 2) := by decide +kernel
theorem dX4_init_45 : decode cX4_init 45 = .ok (.newarray .int, 2) := by decide +kernel
theorem dX4_init_47 : decode cX4_init 47 = .ok (.putfield 26, 3) := by decide +kernel
theorem dX4_init_50 : decode cX4_init 50 = .ok (.aload_n 0, 1) := by decide +kernel
theorem dX4_init_51 : decode cX4_init 51 = .ok (.bipush 6, 2) := by decide +kernel
theorem dX4_init_53 : decode cX4_init 53 = .ok (.newarray .int, 2) := by decide +kernel
theorem dX4_init_55 : decode cX4_init 55 = .ok (.putfield 29, 3) := by decide +kernel
theorem dX4_init_58 : decode cX4_init 58 = .ok (.aload_n 0, 1) := by decide +kernel
theorem dX4_init_59 : decode cX4_init 59 = .ok (.bipush 6, 2) := by decide +kernel
theorem dX4_init_61 : decode cX4_init 61 = .ok (.newarray .int, 2) := by decide +kernel
theorem dX4_init_63 : decode cX4_init 63 = .ok (.putfield 32, 3) := by decide +kernel
theorem dX4_init_66 : decode cX4_init 66 = .ok (.aload_n 0, 1) := by decide +kernel
theorem dX4_init_67 : decode cX4_init 67 = .ok (.bipush 6, 2) := by decide +kernel
theorem dX4_init_69 : decode cX4_init 69 = .ok (.newarray .int, 2) := by decide +kernel
theorem dX4_init_71 : decode cX4_init 71 = .ok (.putfield 35, 3) := by decide +kernel
theorem dX4_init_74 : decode cX4_init 74 = .ok (.aload_n 0, 1) := by decide +kernel
theorem dX4_init_75 : decode cX4_init 75 = .ok (.bipush 13, 2) := by decide +kernel
theorem dX4_init_77 : decode cX4_init 77 = .ok (.newarray .int, 2) := by decide +kernel
theorem dX4_init_79 : decode cX4_init 79 = .ok (.putfield 38, 3) := by decide +kernel
theorem dX4_init_82 : decode cX4_init 82 = .ok (.aload_n 0, 1) := by decide +kernel
theorem dX4_init_83 : decode cX4_init 83 = .ok (.bipush 13, 2) := by decide +kernel
theorem dX4_init_85 : decode cX4_init 85 = .ok (.newarray .int, 2) := by decide +kernel
theorem dX4_init_87 : decode cX4_init 87 = .ok (.putfield 41, 3) := by decide +kernel
theorem dX4_init_90 : decode cX4_init 90 = .ok (.aload_n 0, 1) := by decide +kernel
theorem dX4_init_91 : decode cX4_init 91 = .ok (.bipush 6, 2) := by decide +kernel
theorem dX4_init_93 : decode cX4_init 93 = .ok (.newarray .int, 2) := by decide +kernel
theorem dX4_init_95 : decode cX4_init 95 = .ok (.putfield 44, 3) := by decide +kernel
theorem dX4_init_98 : decode cX4_init 98 = .ok (.aload_n 0, 1) := by decide +kernel
theorem dX4_init_99 : decode cX4_init 99 = .ok (.sipush 520, 3) := by decide +kernel
theorem dX4_init_102 : decode cX4_init 102 = .ok (.newarray .int, 2) := by decide +kernel
theorem dX4_init_104 : decode cX4_init 104 = .ok (.putfield 47, 3) := by decide +kernel
theorem dX4_init_107 : decode cX4_init 107 = .ok (.aload_n 0, 1) := by decide +kernel
theorem dX4_init_108 : decode cX4_init 108 = .ok (.sipush 1602, 3) := by decide +kernel
theorem dX4_init_111 : decode cX4_init 111 = .ok (.newarray .int, 2) := by decide +kernel
theorem dX4_init_113 : decode cX4_init 113 = .ok (.putfield 50, 3) := by decide +kernel
theorem dX4_init_116 : decode cX4_init 116 = .ok (.aload_n 0, 1) := by decide +kernel
theorem dX4_init_117 : decode cX4_init 117 = .ok (.bipush 30, 2) := by decide +kernel
theorem dX4_init_119 : decode cX4_init 119 = .ok (.newarray .int, 2) := by decide +kernel
theorem dX4_init_121 : decode cX4_init 121 = .ok (.putfield 53, 3) := by decide +kernel
theorem dX4_init_124 : decode cX4_init 124 = .ok (.aload_n 0, 1) := by decide +kernel
theorem dX4_init_125 : decode cX4_init 125 = .ok (.bipush 16, 2) := by decide +kernel
theorem dX4_init_127 : decode cX4_init 127 = .ok (.newarray .int, 2) := by decide +kernel
theorem dX4_init_129 : decode cX4_init 129 = .ok (.putfield 56, 3) := by decide +kernel
theorem dX4_init_132 : decode cX4_init 132 = .ok (.aload_n 0, 1) := by decide +kernel
theorem dX4_init_133 : decode cX4_init 133 = .ok (.bipush 16, 2) := by decide +kernel
theorem dX4_init_135 : decode cX4_init 135 = .ok (.newarray .int, 2) := by decide +kernel
theorem dX4_init_137 : decode cX4_init 137 = .ok (.putfield 59, 3) := by decide +kernel
theorem dX4_init_140 : decode cX4_init 140 = .ok (.iconst 0, 1) := by decide +kernel
theorem dX4_init_141 : decode cX4_init 141 = .ok (.istore_n 1, 1) := by decide +kernel
theorem dX4_init_142 : decode cX4_init 142 = .ok (.iload_n 1, 1) := by decide +kernel
theorem dX4_init_143 : decode cX4_init 143 = .ok (.bipush 6, 2) := by decide +kernel
theorem dX4_init_145 : decode cX4_init 145 = .ok (.if_icmp .ge 16, 3) := by decide +kernel
theorem dX4_init_148 : decode cX4_init 148 = .ok (.aload_n 0, 1) := by decide +kernel
theorem dX4_init_149 : decode cX4_init 149 = .ok (.getfield 13, 3) := by decide +kernel
theorem dX4_init_152 : decode cX4_init 152 = .ok (.iload_n 1, 1) := by decide +kernel
theorem dX4_init_153 : decode cX4_init 153 = .ok (.iconst (-1), 1) := by decide +kernel
theorem dX4_init_154 : decode cX4_init 154 = .ok (.iastore, 1) := by decide +kernel
theorem dX4_init_155 : decode cX4_init 155 = .ok (.iinc 1 1, 3) := by decide +kernel
theorem dX4_init_158 : decode cX4_init 158 = .ok (.goto (-16), 3) := by decide +kernel
theorem dX4_init_161 : decode cX4_init 161 = .ok (.iconst 0, 1) := by decide +kernel
theorem dX4_init_162 : decode cX4_init 162 = .ok (.istore_n 1, 1) := by decide +kernel
theorem dX4_init_163 : decode cX4_init 163 = .ok (.iload_n 1, 1) := by decide +kernel
theorem dX4_init_164 : decode cX4_init 164 = .ok (.iconst 4, 1) := by decide +kernel
theorem dX4_init_165 : decode cX4_init 165 = .ok (.if_icmp .ge 16, 3) := by decide +kernel
theorem dX4_init_168 : decode cX4_init 168 = .ok (.aload_n 0, 1) := by decide +kernel
theorem dX4_init_169 : decode cX4_init 169 = .ok (.getfield 19, 3) := by decide +kernel
theorem dX4_init_172 : decode cX4_init 172 = .ok (.iload_n 1, 1) := by decide +kernel
theorem dX4_init_173 : decode cX4_init 173 = .ok (.iconst (-1), 1) := by decide +kernel
theorem dX4_init_174 : decode cX4_init 174 = .ok (.iastore, 1) := by decide +kernel
theorem dX4_init_175 : decode cX4_init 175 = .ok (.iinc 1 1, 3) := by decide +kernel
theorem dX4_init_178 : decode cX4_init 178 = .ok (.goto (-15), 3) := by decide +kernel
theorem dX4_init_181 : decode cX4_init 181 = .ok (.aload_n 0, 1) := by decide +kernel
theorem dX4_init_182 : decode cX4_init 182 = .ok (.invokevirtual 62, 3) := by decide +kernel
theorem dX4_init_185 : decode cX4_init 185 = .ok (.return_, 1) := by decide +kernel
theorem dX4_in_0 : decode cX4_in 0 = .ok (.lload_n 0, 1) := by decide +kernel
theorem dX4_in_1 : decode cX4_in 1 = .ok (.lload_n 2, 1) := by decide +kernel
theorem dX4_in_2 : decode cX4_in 2 = .ok (.lcmp, 1) := by decide +kernel
theorem dX4_in_3 : decode cX4_in 3 = .ok (.ifCond .lt 14, 3) := by decide +kernel
theorem dX4_in_6 : decode cX4_in 6 = .ok (.lload_n 0, 1) := by decide +kernel
theorem dX4_in_7 : decode cX4_in 7 = .ok (.lload 4, 2) := by decide +kernel
theorem dX4_in_9 : decode cX4_in 9 = .ok (.lcmp, 1) := by decide +kernel
theorem dX4_in_10 : decode cX4_in 10 = .ok (.ifCond .gt 7, 3) := by decide +kernel
theorem dX4_in_13 : decode cX4_in 13 = .ok (.iconst 1, 1) := by decide +kernel
theorem dX4_in_14 : decode cX4_in 14 = .ok (.goto 4, 3) := by decide +kernel
theorem dX4_in_17 : decode cX4_in 17 = .ok (.iconst 0, 1) := by decide +kernel
theorem dX4_in_18 : decode cX4_in 18 = .ok (.ireturn, 1) := by decide +kernel
theorem dX4_has_0 : decode cX4_has 0 = .ok (.iload_n 0, 1) := by decide +kernel
theorem dX4_has_1 : decode cX4_has 1 = .ok (.iload_n 1, 1) := by decide +kernel
theorem dX4_has_2 : decode cX4_has 2 = .ok (.ishr, 1) := by decide +kernel
theorem dX4_has_3 : decode cX4_has 3 = .ok (.iconst 1, 1) := by decide +kernel
theorem dX4_has_4 : decode cX4_has 4 = .ok (.iand, 1) := by decide +kernel
theorem dX4_has_5 : decode cX4_has 5 = .ok (.iconst 1, 1) := by decide +kernel
theorem dX4_has_6 : decode cX4_has 6 = .ok (.if_icmp .ne 7, 3) := by decide +kernel
theorem dX4_has_9 : decode cX4_has 9 = .ok (.iconst 1, 1) := by decide +kernel
theorem dX4_has_10 : decode cX4_has 10 = .ok (.goto 4, 3) := by decide +kernel
theorem dX4_has_13 : decode cX4_has 13 = .ok (.iconst 0, 1) := by decide +kernel
theorem dX4_has_14 : decode cX4_has 14 = .ok (.ireturn, 1) := by decide +kernel
theorem dX4_found_0 : decode cX4_found 0 = .ok (.aload_n 0, 1) := by decide +kernel
theorem dX4_found_1 : decode cX4_found 1 = .ok (.iload_n 1, 1) := by decide +kernel
theorem dX4_found_2 : decode cX4_found 2 = .ok (.putfield 65, 3) := by decide +kernel
theorem dX4_found_5 : decode cX4_found 5 = .ok (.aload_n 0, 1) := by decide +kernel
theorem dX4_found_6 : decode cX4_found 6 = .ok (.getfield 26, 3) := by decide +kernel
theorem dX4_found_9 : decode cX4_found 9 = .ok (.iload_n 1, 1) := by decide +kernel
theorem dX4_found_10 : decode cX4_found 10 = .ok (.dup2, 1) := by decide +kernel
theorem dX4_found_11 : decode cX4_found 11 = .ok (.iaload, 1) := by decide +kernel
theorem dX4_found_12 : decode cX4_found 12 = .ok (.iconst 1, 1) := by decide +kernel
theorem dX4_found_13 : decode cX4_found 13 = .ok (.iadd, 1) := by decide +kernel
theorem dX4_found_14 : decode cX4_found 14 = .ok (.iastore, 1) := by decide +kernel
theorem dX4_found_15 : decode cX4_found 15 = .ok (.bipush (-3), 2) := by decide +kernel
theorem dX4_found_17 : decode cX4_found 17 = .ok (.ireturn, 1) := by decide +kernel
theorem dX4_tell_0 : decode cX4_tell 0 = .ok (.aload_n 0, 1) := by decide +kernel
theorem dX4_tell_1 : decode cX4_tell 1 = .ok (.iload_n 1, 1) := by decide +kernel
theorem dX4_tell_2 : decode cX4_tell 2 = .ok (.putfield 69, 3) := by decide +kernel
theorem dX4_tell_5 : decode cX4_tell 5 = .ok (.iconst 1, 1) := by decide +kernel
theorem dX4_tell_6 : decode cX4_tell 6 = .ok (.ireturn, 1) := by decide +kernel
theorem dX4_answer_0 : decode cX4_answer 0 = .ok (.aload_n 0, 1) := by decide +kernel
theorem dX4_answer_1 : decode cX4_answer 1 = .ok (.iload_n 2, 1) := by decide +kernel
theorem dX4_answer_2 : decode cX4_answer 2 = .ok (.putfield 69, 3) := by decide +kernel
theorem dX4_answer_5 : decode cX4_answer 5 = .ok (.iload_n 1, 1) := by decide +kernel
theorem dX4_answer_6 : decode cX4_answer 6 = .ok (.ireturn, 1) := by decide +kernel
theorem dX4_isRow_0 : decode cX4_isRow 0 = .ok (.iload_n 0, 1) := by decide +kernel
theorem dX4_isRow_1 : decode cX4_isRow 1 = .ok (.i2l, 1) := by decide +kernel
theorem dX4_isRow_2 : decode cX4_isRow 2 = .ok (.lconst 0, 1) := by decide +kernel
theorem dX4_isRow_3 : decode cX4_isRow 3 = .ok (.ldc2_w 72, 3) := by decide +kernel
theorem dX4_isRow_6 : decode cX4_isRow 6 = .ok (.invokestatic 74, 3) := by decide +kernel
theorem dX4_isRow_9 : decode cX4_isRow 9 = .ok (.ireturn, 1) := by decide +kernel
theorem dX4_isText_0 : decode cX4_isText 0 = .ok (.iload_n 0, 1) := by decide +kernel
theorem dX4_isText_1 : decode cX4_isText 1 = .ok (.i2l, 1) := by decide +kernel
theorem dX4_isText_2 : decode cX4_isText 2 = .ok (.lconst 0, 1) := by decide +kernel
theorem dX4_isText_3 : decode cX4_isText 3 = .ok (.ldc2_w 78, 3) := by decide +kernel
theorem dX4_isText_6 : decode cX4_isText 6 = .ok (.invokestatic 74, 3) := by decide +kernel
theorem dX4_isText_9 : decode cX4_isText 9 = .ok (.ireturn, 1) := by decide +kernel
theorem dX4_row_0 : decode cX4_row 0 = .ok (.iload_n 1, 1) := by decide +kernel
theorem dX4_row_1 : decode cX4_row 1 = .ok (.invokestatic 80, 3) := by decide +kernel
theorem dX4_row_4 : decode cX4_row 4 = .ok (.ifCond .eq 9, 3) := by decide +kernel
theorem dX4_row_7 : decode cX4_row 7 = .ok (.iload_n 2, 1) := by decide +kernel
theorem dX4_row_8 : decode cX4_row 8 = .ok (.bipush 40, 2) := by decide +kernel
theorem dX4_row_10 : decode cX4_row 10 = .ok (.if_icmp .le 5, 3) := by decide +kernel
theorem dX4_row_13 : decode cX4_row 13 = .ok (.iconst (-1), 1) := by decide +kernel
theorem dX4_row_14 : decode cX4_row 14 = .ok (.ireturn, 1) := by decide +kernel
theorem dX4_row_15 : decode cX4_row 15 = .ok (.iload_n 2, 1) := by decide +kernel
theorem dX4_row_16 : decode cX4_row 16 = .ok (.ifCond .ge 9, 3) := by decide +kernel
theorem dX4_row_19 : decode cX4_row 19 = .ok (.aload_n 0, 1) := by decide +kernel
theorem dX4_row_20 : decode cX4_row 20 = .ok (.iconst 5, 1) := by decide +kernel
theorem dX4_row_21 : decode cX4_row 21 = .ok (.invokevirtual 84, 3) := by decide +kernel
theorem dX4_row_24 : decode cX4_row 24 = .ok (.ireturn, 1) := by decide +kernel
theorem dX4_row_25 : decode cX4_row 25 = .ok (.aload_n 0, 1) := by decide +kernel
theorem dX4_row_26 : decode cX4_row 26 = .ok (.getfield 13, 3) := by decide +kernel
theorem dX4_row_29 : decode cX4_row 29 = .ok (.iload_n 1, 1) := by decide +kernel
theorem dX4_row_30 : decode cX4_row 30 = .ok (.iload_n 2, 1) := by decide +kernel
theorem dX4_row_31 : decode cX4_row 31 = .ok (.iastore, 1) := by decide +kernel
theorem dX4_row_32 : decode cX4_row 32 = .ok (.iconst 0, 1) := by decide +kernel
theorem dX4_row_33 : decode cX4_row 33 = .ok (.istore_n 3, 1) := by decide +kernel
theorem dX4_row_34 : decode cX4_row 34 = .ok (.iload_n 3, 1) := by decide +kernel
theorem dX4_row_35 : decode cX4_row 35 = .ok (.bipush 40, 2) := by decide +kernel
theorem dX4_row_37 : decode cX4_row 37 = .ok (.if_icmp .ge 21, 3) := by decide +kernel
theorem dX4_row_40 : decode cX4_row 40 = .ok (.aload_n 0, 1) := by decide +kernel
theorem dX4_row_41 : decode cX4_row 41 = .ok (.getfield 7, 3) := by decide +kernel
theorem dX4_row_44 : decode cX4_row 44 = .ok (.bipush 40, 2) := by decide +kernel
theorem dX4_row_46 : decode cX4_row 46 = .ok (.iload_n 1, 1) := by decide +kernel
theorem dX4_row_47 : decode cX4_row 47 = .ok (.imul, 1) := by decide +kernel
theorem dX4_row_48 : decode cX4_row 48 = .ok (.iload_n 3, 1) := by decide +kernel
theorem dX4_row_49 : decode cX4_row 49 = .ok (.iadd, 1) := by decide +kernel
theorem dX4_row_50 : decode cX4_row 50 = .ok (.iconst 0, 1) := by decide +kernel
theorem dX4_row_51 : decode cX4_row 51 = .ok (.iastore, 1) := by decide +kernel
theorem dX4_row_52 : decode cX4_row 52 = .ok (.iinc 3 1, 3) := by decide +kernel
theorem dX4_row_55 : decode cX4_row 55 = .ok (.goto (-21), 3) := by decide +kernel
theorem dX4_row_58 : decode cX4_row 58 = .ok (.iload_n 2, 1) := by decide +kernel
theorem dX4_row_59 : decode cX4_row 59 = .ok (.ireturn, 1) := by decide +kernel
theorem dX4_lay_0 : decode cX4_lay 0 = .ok (.iload_n 1, 1) := by decide +kernel
theorem dX4_lay_1 : decode cX4_lay 1 = .ok (.invokestatic 80, 3) := by decide +kernel
theorem dX4_lay_4 : decode cX4_lay 4 = .ok (.ifCond .ne 5, 3) := by decide +kernel
theorem dX4_lay_7 : decode cX4_lay 7 = .ok (.iconst (-1), 1) := by decide +kernel
theorem dX4_lay_8 : decode cX4_lay 8 = .ok (.ireturn, 1) := by decide +kernel
theorem dX4_lay_9 : decode cX4_lay 9 = .ok (.aload_n 0, 1) := by decide +kernel
theorem dX4_lay_10 : decode cX4_lay 10 = .ok (.getfield 13, 3) := by decide +kernel
theorem dX4_lay_13 : decode cX4_lay 13 = .ok (.iload_n 1, 1) := by decide +kernel
theorem dX4_lay_14 : decode cX4_lay 14 = .ok (.iaload, 1) := by decide +kernel
theorem dX4_lay_15 : decode cX4_lay 15 = .ok (.ifCond .ge 9, 3) := by decide +kernel
theorem dX4_lay_18 : decode cX4_lay 18 = .ok (.aload_n 0, 1) := by decide +kernel
theorem dX4_lay_19 : decode cX4_lay 19 = .ok (.iconst 1, 1) := by decide +kernel
theorem dX4_lay_20 : decode cX4_lay 20 = .ok (.invokevirtual 84, 3) := by decide +kernel
theorem dX4_lay_23 : decode cX4_lay 23 = .ok (.ireturn, 1) := by decide +kernel
theorem dX4_lay_24 : decode cX4_lay 24 = .ok (.iload_n 2, 1) := by decide +kernel
theorem dX4_lay_25 : decode cX4_lay 25 = .ok (.i2l, 1) := by decide +kernel
theorem dX4_lay_26 : decode cX4_lay 26 = .ok (.lconst 0, 1) := by decide +kernel
theorem dX4_lay_27 : decode cX4_lay 27 = .ok (.aload_n 0, 1) := by decide +kernel
theorem dX4_lay_28 : decode cX4_lay 28 = .ok (.getfield 13, 3) := by decide +kernel
theorem dX4_lay_31 : decode cX4_lay 31 = .ok (.iload_n 1, 1) := by decide +kernel
theorem dX4_lay_32 : decode cX4_lay 32 = .ok (.iaload, 1) := by decide +kernel
theorem dX4_lay_33 : decode cX4_lay 33 = .ok (.iconst 1, 1) := by decide +kernel
theorem dX4_lay_34 : decode cX4_lay 34 = .ok (.isub, 1) := by decide +kernel
theorem dX4_lay_35 : decode cX4_lay 35 = .ok (.i2l, 1) := by decide +kernel
theorem dX4_lay_36 : decode cX4_lay 36 = .ok (.invokestatic 74, 3) := by decide +kernel
theorem dX4_lay_39 : decode cX4_lay 39 = .ok (.ifCond .ne 9, 3) := by decide +kernel
theorem dX4_lay_42 : decode cX4_lay 42 = .ok (.aload_n 0, 1) := by decide +kernel
theorem dX4_lay_43 : decode cX4_lay 43 = .ok (.iconst 2, 1) := by decide +kernel
theorem dX4_lay_44 : decode cX4_lay 44 = .ok (.invokevirtual 84, 3) := by decide +kernel
theorem dX4_lay_47 : decode cX4_lay 47 = .ok (.ireturn, 1) := by decide +kernel
theorem dX4_lay_48 : decode cX4_lay 48 = .ok (.aload_n 0, 1) := by decide +kernel
theorem dX4_lay_49 : decode cX4_lay 49 = .ok (.getfield 7, 3) := by decide +kernel
theorem dX4_lay_52 : decode cX4_lay 52 = .ok (.bipush 40, 2) := by decide +kernel
theorem dX4_lay_54 : decode cX4_lay 54 = .ok (.iload_n 1, 1) := by decide +kernel
theorem dX4_lay_55 : decode cX4_lay 55 = .ok (.imul, 1) := by decide +kernel
theorem dX4_lay_56 : decode cX4_lay 56 = .ok (.iload_n 2, 1) := by decide +kernel
theorem dX4_lay_57 : decode cX4_lay 57 = .ok (.iadd, 1) := by decide +kernel
theorem dX4_lay_58 : decode cX4_lay 58 = .ok (.iaload, 1) := by decide +kernel
theorem dX4_lay_59 : decode cX4_lay 59 = .ok (.istore 4, 2) := by decide +kernel
theorem dX4_lay_61 : decode cX4_lay 61 = .ok (.aload_n 0, 1) := by decide +kernel
theorem dX4_lay_62 : decode cX4_lay 62 = .ok (.getfield 7, 3) := by decide +kernel
theorem dX4_lay_65 : decode cX4_lay 65 = .ok (.bipush 40, 2) := by decide +kernel
theorem dX4_lay_67 : decode cX4_lay 67 = .ok (.iload_n 1, 1) := by decide +kernel
theorem dX4_lay_68 : decode cX4_lay 68 = .ok (.imul, 1) := by decide +kernel
theorem dX4_lay_69 : decode cX4_lay 69 = .ok (.iload_n 2, 1) := by decide +kernel
theorem dX4_lay_70 : decode cX4_lay 70 = .ok (.iadd, 1) := by decide +kernel
theorem dX4_lay_71 : decode cX4_lay 71 = .ok (.iload_n 3, 1) := by decide +kernel
theorem dX4_lay_72 : decode cX4_lay 72 = .ok (.iastore, 1) := by decide +kernel
theorem dX4_lay_73 : decode cX4_lay 73 = .ok (.aload_n 0, 1) := by decide +kernel
theorem dX4_lay_74 : decode cX4_lay 74 = .ok (.iload 4, 2) := by decide +kernel
theorem dX4_lay_76 : decode cX4_lay 76 = .ok (.invokevirtual 88, 3) := by decide +kernel
theorem dX4_lay_79 : decode cX4_lay 79 = .ok (.ireturn, 1) := by decide +kernel
theorem dX4_at_0 : decode cX4_at 0 = .ok (.iload_n 1, 1) := by decide +kernel
theorem dX4_at_1 : decode cX4_at 1 = .ok (.invokestatic 80, 3) := by decide +kernel
theorem dX4_at_4 : decode cX4_at 4 = .ok (.ifCond .ne 5, 3) := by decide +kernel
theorem dX4_at_7 : decode cX4_at 7 = .ok (.iconst (-1), 1) := by decide +kernel
theorem dX4_at_8 : decode cX4_at 8 = .ok (.ireturn, 1) := by decide +kernel
theorem dX4_at_9 : decode cX4_at 9 = .ok (.aload_n 0, 1) := by decide +kernel
theorem dX4_at_10 : decode cX4_at 10 = .ok (.getfield 13, 3) := by decide +kernel
theorem dX4_at_13 : decode cX4_at 13 = .ok (.iload_n 1, 1) := by decide +kernel
theorem dX4_at_14 : decode cX4_at 14 = .ok (.iaload, 1) := by decide +kernel
theorem dX4_at_15 : decode cX4_at 15 = .ok (.ifCond .ge 9, 3) := by decide +kernel
theorem dX4_at_18 : decode cX4_at 18 = .ok (.aload_n 0, 1) := by decide +kernel
theorem dX4_at_19 : decode cX4_at 19 = .ok (.iconst 1, 1) := by decide +kernel
theorem dX4_at_20 : decode cX4_at 20 = .ok (.invokevirtual 84, 3) := by decide +kernel
theorem dX4_at_23 : decode cX4_at 23 = .ok (.ireturn, 1) := by decide +kernel
theorem dX4_at_24 : decode cX4_at 24 = .ok (.iload_n 2, 1) := by decide +kernel
theorem dX4_at_25 : decode cX4_at 25 = .ok (.i2l, 1) := by decide +kernel
theorem dX4_at_26 : decode cX4_at 26 = .ok (.lconst 0, 1) := by decide +kernel
theorem dX4_at_27 : decode cX4_at 27 = .ok (.aload_n 0, 1) := by decide +kernel
theorem dX4_at_28 : decode cX4_at 28 = .ok (.getfield 13, 3) := by decide +kernel
theorem dX4_at_31 : decode cX4_at 31 = .ok (.iload_n 1, 1) := by decide +kernel
theorem dX4_at_32 : decode cX4_at 32 = .ok (.iaload, 1) := by decide +kernel
theorem dX4_at_33 : decode cX4_at 33 = .ok (.iconst 1, 1) := by decide +kernel
theorem dX4_at_34 : decode cX4_at 34 = .ok (.isub, 1) := by decide +kernel
theorem dX4_at_35 : decode cX4_at 35 = .ok (.i2l, 1) := by decide +kernel
theorem dX4_at_36 : decode cX4_at 36 = .ok (.invokestatic 74, 3) := by decide +kernel
theorem dX4_at_39 : decode cX4_at 39 = .ok (.ifCond .eq 21, 3) := by decide +kernel
theorem dX4_at_42 : decode cX4_at 42 = .ok (.aload_n 0, 1) := by decide +kernel
theorem dX4_at_43 : decode cX4_at 43 = .ok (.aload_n 0, 1) := by decide +kernel
theorem dX4_at_44 : decode cX4_at 44 = .ok (.getfield 7, 3) := by decide +kernel
theorem dX4_at_47 : decode cX4_at 47 = .ok (.bipush 40, 2) := by decide +kernel
theorem dX4_at_49 : decode cX4_at 49 = .ok (.iload_n 1, 1) := by decide +kernel
theorem dX4_at_50 : decode cX4_at 50 = .ok (.imul, 1) := by decide +kernel
theorem dX4_at_51 : decode cX4_at 51 = .ok (.iload_n 2, 1) := by decide +kernel
theorem dX4_at_52 : decode cX4_at 52 = .ok (.iadd, 1) := by decide +kernel
theorem dX4_at_53 : decode cX4_at 53 = .ok (.iaload, 1) := by decide +kernel
theorem dX4_at_54 : decode cX4_at 54 = .ok (.invokevirtual 88, 3) := by decide +kernel
theorem dX4_at_57 : decode cX4_at 57 = .ok (.goto 8, 3) := by decide +kernel
theorem dX4_at_60 : decode cX4_at 60 = .ok (.aload_n 0, 1) := by decide +kernel
theorem dX4_at_61 : decode cX4_at 61 = .ok (.iconst 2, 1) := by decide +kernel
theorem dX4_at_62 : decode cX4_at 62 = .ok (.invokevirtual 84, 3) := by decide +kernel
theorem dX4_at_65 : decode cX4_at 65 = .ok (.ireturn, 1) := by decide +kernel
theorem dX4_tear_0 : decode cX4_tear 0 = .ok (.iload_n 1, 1) := by decide +kernel
theorem dX4_tear_1 : decode cX4_tear 1 = .ok (.invokestatic 80, 3) := by decide +kernel
theorem dX4_tear_4 : decode cX4_tear 4 = .ok (.ifCond .ne 5, 3) := by decide +kernel
theorem dX4_tear_7 : decode cX4_tear 7 = .ok (.iconst (-1), 1) := by decide +kernel
theorem dX4_tear_8 : decode cX4_tear 8 = .ok (.ireturn, 1) := by decide +kernel
theorem dX4_tear_9 : decode cX4_tear 9 = .ok (.aload_n 0, 1) := by decide +kernel
theorem dX4_tear_10 : decode cX4_tear 10 = .ok (.getfield 13, 3) := by decide +kernel
theorem dX4_tear_13 : decode cX4_tear 13 = .ok (.iload_n 1, 1) := by decide +kernel
theorem dX4_tear_14 : decode cX4_tear 14 = .ok (.iaload, 1) := by decide +kernel
theorem dX4_tear_15 : decode cX4_tear 15 = .ok (.ifCond .ge 9, 3) := by decide +kernel
theorem dX4_tear_18 : decode cX4_tear 18 = .ok (.aload_n 0, 1) := by decide +kernel
theorem dX4_tear_19 : decode cX4_tear 19 = .ok (.iconst 1, 1) := by decide +kernel
theorem dX4_tear_20 : decode cX4_tear 20 = .ok (.invokevirtual 84, 3) := by decide +kernel
theorem dX4_tear_23 : decode cX4_tear 23 = .ok (.ireturn, 1) := by decide +kernel
theorem dX4_tear_24 : decode cX4_tear 24 = .ok (.aload_n 0, 1) := by decide +kernel
theorem dX4_tear_25 : decode cX4_tear 25 = .ok (.getfield 13, 3) := by decide +kernel
theorem dX4_tear_28 : decode cX4_tear 28 = .ok (.iload_n 1, 1) := by decide +kernel
theorem dX4_tear_29 : decode cX4_tear 29 = .ok (.iconst (-1), 1) := by decide +kernel
theorem dX4_tear_30 : decode cX4_tear 30 = .ok (.iastore, 1) := by decide +kernel
theorem dX4_tear_31 : decode cX4_tear 31 = .ok (.iconst 1, 1) := by decide +kernel
theorem dX4_tear_32 : decode cX4_tear 32 = .ok (.ireturn, 1) := by decide +kernel
theorem dX4_copy_0 : decode cX4_copy 0 = .ok (.iload_n 1, 1) := by decide +kernel
theorem dX4_copy_1 : decode cX4_copy 1 = .ok (.invokestatic 80, 3) := by decide +kernel
theorem dX4_copy_4 : decode cX4_copy 4 = .ok (.ifCond .eq 10, 3) := by decide +kernel
theorem dX4_copy_7 : decode cX4_copy 7 = .ok (.iload_n 3, 1) := by decide +kernel
theorem dX4_copy_8 : decode cX4_copy 8 = .ok (.invokestatic 80, 3) := by decide +kernel
theorem dX4_copy_11 : decode cX4_copy 11 = .ok (.ifCond .ne 5, 3) := by decide +kernel
theorem dX4_copy_14 : decode cX4_copy 14 = .ok (.iconst (-1), 1) := by decide +kernel
theorem dX4_copy_15 : decode cX4_copy 15 = .ok (.ireturn, 1) := by decide +kernel
theorem dX4_copy_16 : decode cX4_copy 16 = .ok (.iload 5, 2) := by decide +kernel
theorem dX4_copy_18 : decode cX4_copy 18 = .ok (.ifCond .ge 9, 3) := by decide +kernel
theorem dX4_copy_21 : decode cX4_copy 21 = .ok (.aload_n 0, 1) := by decide +kernel
theorem dX4_copy_22 : decode cX4_copy 22 = .ok (.iconst 5, 1) := by decide +kernel
theorem dX4_copy_23 : decode cX4_copy 23 = .ok (.invokevirtual 84, 3) := by decide +kernel
theorem dX4_copy_26 : decode cX4_copy 26 = .ok (.ireturn, 1) := by decide +kernel
theorem dX4_copy_27 : decode cX4_copy 27 = .ok (.aload_n 0, 1) := by decide +kernel
theorem dX4_copy_28 : decode cX4_copy 28 = .ok (.getfield 13, 3) := by decide +kernel
theorem dX4_copy_31 : decode cX4_copy 31 = .ok (.iload_n 1, 1) := by decide +kernel
theorem dX4_copy_32 : decode cX4_copy 32 = .ok (.iaload, 1) := by decide +kernel
theorem dX4_copy_33 : decode cX4_copy 33 = .ok (.ifCond .lt 12, 3) := by decide +kernel
theorem dX4_copy_36 : decode cX4_copy 36 = .ok (.aload_n 0, 1) := by decide +kernel
theorem dX4_copy_37 : decode cX4_copy 37 = .ok (.getfield 13, 3) := by decide +kernel
theorem dX4_copy_40 : decode cX4_copy 40 = .ok (.iload_n 3, 1) := by decide +kernel
theorem dX4_copy_41 : decode cX4_copy 41 = .ok (.iaload, 1) := by decide +kernel
theorem dX4_copy_42 : decode cX4_copy 42 = .ok (.ifCond .ge 9, 3) := by decide +kernel
theorem dX4_copy_45 : decode cX4_copy 45 = .ok (.aload_n 0, 1) := by decide +kernel
theorem dX4_copy_46 : decode cX4_copy 46 = .ok (.iconst 1, 1) := by decide +kernel
theorem dX4_copy_47 : decode cX4_copy 47 = .ok (.invokevirtual 84, 3) := by decide +kernel
theorem dX4_copy_50 : decode cX4_copy 50 = .ok (.ireturn, 1) := by decide +kernel
theorem dX4_copy_51 : decode cX4_copy 51 = .ok (.iload_n 2, 1) := by decide +kernel
theorem dX4_copy_52 : decode cX4_copy 52 = .ok (.ifCond .lt 43, 3) := by decide +kernel
theorem dX4_copy_55 : decode cX4_copy 55 = .ok (.iload 4, 2) := by decide +kernel
theorem dX4_copy_57 : decode cX4_copy 57 = .ok (.ifCond .lt 38, 3) := by decide +kernel
theorem dX4_copy_60 : decode cX4_copy 60 = .ok (.iload_n 2, 1) := by decide +kernel
theorem dX4_copy_61 : decode cX4_copy 61 = .ok (.i2l, 1) := by decide +kernel
theorem dX4_copy_62 : decode cX4_copy 62 = .ok (.iload 5, 2) := by decide +kernel
theorem dX4_copy_64 : decode cX4_copy 64 = .ok (.i2l, 1) := by decide +kernel
theorem dX4_copy_65 : decode cX4_copy 65 = .ok (.ladd, 1) := by decide +kernel
theorem dX4_copy_66 : decode cX4_copy 66 = .ok (.aload_n 0, 1) := by decide +kernel
theorem dX4_copy_67 : decode cX4_copy 67 = .ok (.getfield 13, 3) := by decide +kernel
theorem dX4_copy_70 : decode cX4_copy 70 = .ok (.iload_n 1, 1) := by decide +kernel
theorem dX4_copy_71 : decode cX4_copy 71 = .ok (.iaload, 1) := by decide +kernel
theorem dX4_copy_72 : decode cX4_copy 72 = .ok (.i2l, 1) := by decide +kernel
theorem dX4_copy_73 : decode cX4_copy 73 = .ok (.lcmp, 1) := by decide +kernel
theorem dX4_copy_74 : decode cX4_copy 74 = .ok (.ifCond .gt 21, 3) := by decide +kernel
theorem dX4_copy_77 : decode cX4_copy 77 = .ok (.iload 4, 2) := by decide +kernel
theorem dX4_copy_79 : decode cX4_copy 79 = .ok (.i2l, 1) := by decide +kernel
theorem dX4_copy_80 : decode cX4_copy 80 = .ok (.iload 5, 2) := by decide +kernel
theorem dX4_copy_82 : decode cX4_copy 82 = .ok (.i2l, 1) := by decide +kernel
theorem dX4_copy_83 : decode cX4_copy 83 = .ok (.ladd, 1) := by decide +kernel
theorem dX4_copy_84 : decode cX4_copy 84 = .ok (.aload_n 0, 1) := by decide +kernel
theorem dX4_copy_85 : decode cX4_copy 85 = .ok (.getfield 13, 3) := by decide +kernel
theorem dX4_copy_88 : decode cX4_copy 88 = .ok (.iload_n 3, 1) := by decide +kernel
theorem dX4_copy_89 : decode cX4_copy 89 = .ok (.iaload, 1) := by decide +kernel
theorem dX4_copy_90 : decode cX4_copy 90 = .ok (.i2l, 1) := by decide +kernel
theorem dX4_copy_91 : decode cX4_copy 91 = .ok (.lcmp, 1) := by decide +kernel
theorem dX4_copy_92 : decode cX4_copy 92 = .ok (.ifCond .le 9, 3) := by decide +kernel
theorem dX4_copy_95 : decode cX4_copy 95 = .ok (.aload_n 0, 1) := by decide +kernel
theorem dX4_copy_96 : decode cX4_copy 96 = .ok (.iconst 2, 1) := by decide +kernel
theorem dX4_copy_97 : decode cX4_copy 97 = .ok (.invokevirtual 84, 3) := by decide +kernel
theorem dX4_copy_100 : decode cX4_copy 100 = .ok (.ireturn, 1) := by decide +kernel
theorem dX4_copy_101 : decode cX4_copy 101 = .ok (.iconst 0, 1) := by decide +kernel
theorem dX4_copy_102 : decode cX4_copy 102 = .ok (.istore 6, 2) := by decide +kernel
theorem dX4_copy_104 : decode cX4_copy 104 = .ok (.iload 6, 2) := by decide +kernel
theorem dX4_copy_106 : decode cX4_copy 106 = .ok (.iload 5, 2) := by decide +kernel
theorem dX4_copy_108 : decode cX4_copy 108 = .ok (.if_icmp .ge 58, 3) := by decide +kernel
theorem dX4_copy_111 : decode cX4_copy 111 = .ok (.iload 4, 2) := by decide +kernel
theorem dX4_copy_113 : decode cX4_copy 113 = .ok (.iload_n 2, 1) := by decide +kernel
theorem dX4_copy_114 : decode cX4_copy 114 = .ok (.if_icmp .le 13, 3) := by decide +kernel
theorem dX4_copy_117 : decode cX4_copy 117 = .ok (.iload 5, 2) := by decide +kernel
theorem dX4_copy_119 : decode cX4_copy 119 = .ok (.iconst 1, 1) := by decide +kernel
theorem dX4_copy_120 : decode cX4_copy 120 = .ok (.isub, 1) := by decide +kernel
theorem dX4_copy_121 : decode cX4_copy 121 = .ok (.iload 6, 2) := by decide +kernel
theorem dX4_copy_123 : decode cX4_copy 123 = .ok (.isub, 1) := by decide +kernel
theorem dX4_copy_124 : decode cX4_copy 124 = .ok (.goto 5, 3) := by decide +kernel
theorem dX4_copy_127 : decode cX4_copy 127 = .ok (.iload 6, 2) := by decide +kernel
theorem dX4_copy_129 : decode cX4_copy 129 = .ok (.istore 7, 2) := by decide +kernel
theorem dX4_copy_131 : decode cX4_copy 131 = .ok (.aload_n 0, 1) := by decide +kernel
theorem dX4_copy_132 : decode cX4_copy 132 = .ok (.getfield 7, 3) := by decide +kernel
theorem dX4_copy_135 : decode cX4_copy 135 = .ok (.bipush 40, 2) := by decide +kernel
theorem dX4_copy_137 : decode cX4_copy 137 = .ok (.iload_n 3, 1) := by decide +kernel
theorem dX4_copy_138 : decode cX4_copy 138 = .ok (.imul, 1) := by decide +kernel
theorem dX4_copy_139 : decode cX4_copy 139 = .ok (.iload 4, 2) := by decide +kernel
theorem dX4_copy_141 : decode cX4_copy 141 = .ok (.iadd, 1) := by decide +kernel
theorem dX4_copy_142 : decode cX4_copy 142 = .ok (.iload 7, 2) := by decide +kernel
theorem dX4_copy_144 : decode cX4_copy 144 = .ok (.iadd, 1) := by decide +kernel
theorem dX4_copy_145 : decode cX4_copy 145 = .ok (.aload_n 0, 1) := by decide +kernel
theorem dX4_copy_146 : decode cX4_copy 146 = .ok (.getfield 7, 3) := by decide +kernel
theorem dX4_copy_149 : decode cX4_copy 149 = .ok (.bipush 40, 2) := by decide +kernel
theorem dX4_copy_151 : decode cX4_copy 151 = .ok (.iload_n 1, 1) := by decide +kernel
theorem dX4_copy_152 : decode cX4_copy 152 = .ok (.imul, 1) := by decide +kernel
theorem dX4_copy_153 : decode cX4_copy 153 = .ok (.iload_n 2, 1) := by decide +kernel
theorem dX4_copy_154 : decode cX4_copy 154 = .ok (.iadd, 1) := by decide +kernel
theorem dX4_copy_155 : decode cX4_copy 155 = .ok (.iload 7, 2) := by decide +kernel
theorem dX4_copy_157 : decode cX4_copy 157 = .ok (.iadd, 1) := by decide +kernel
theorem dX4_copy_158 : decode cX4_copy 158 = .ok (.iaload, 1) := by decide +kernel
theorem dX4_copy_159 : decode cX4_copy 159 = .ok (.iastore, 1) := by decide +kernel
theorem dX4_copy_160 : decode cX4_copy 160 = .ok (.iinc 6 1, 3) := by decide +kernel
theorem dX4_copy_163 : decode cX4_copy 163 = .ok (.goto (-59), 3) := by decide +kernel
theorem dX4_copy_166 : decode cX4_copy 166 = .ok (.iconst 1, 1) := by decide +kernel
theorem dX4_copy_167 : decode cX4_copy 167 = .ok (.ireturn, 1) := by decide +kernel
theorem dX4_mean_0 : decode cX4_mean 0 = .ok (.iload_n 1, 1) := by decide +kernel
theorem dX4_mean_1 : decode cX4_mean 1 = .ok (.invokestatic 80, 3) := by decide +kernel
theorem dX4_mean_4 : decode cX4_mean 4 = .ok (.ifCond .ne 5, 3) := by decide +kernel
theorem dX4_mean_7 : decode cX4_mean 7 = .ok (.iconst (-1), 1) := by decide +kernel
theorem dX4_mean_8 : decode cX4_mean 8 = .ok (.ireturn, 1) := by decide +kernel
theorem dX4_mean_9 : decode cX4_mean 9 = .ok (.aload_n 0, 1) := by decide +kernel
theorem dX4_mean_10 : decode cX4_mean 10 = .ok (.getfield 13, 3) := by decide +kernel
theorem dX4_mean_13 : decode cX4_mean 13 = .ok (.iload_n 1, 1) := by decide +kernel
theorem dX4_mean_14 : decode cX4_mean 14 = .ok (.iaload, 1) := by decide +kernel
theorem dX4_mean_15 : decode cX4_mean 15 = .ok (.ifCond .ge 9, 3) := by decide +kernel
theorem dX4_mean_18 : decode cX4_mean 18 = .ok (.aload_n 0, 1) := by decide +kernel
theorem dX4_mean_19 : decode cX4_mean 19 = .ok (.iconst 1, 1) := by decide +kernel
theorem dX4_mean_20 : decode cX4_mean 20 = .ok (.invokevirtual 84, 3) := by decide +kernel
theorem dX4_mean_23 : decode cX4_mean 23 = .ok (.ireturn, 1) := by decide +kernel
theorem dX4_mean_24 : decode cX4_mean 24 = .ok (.aload_n 0, 1) := by decide +kernel
theorem dX4_mean_25 : decode cX4_mean 25 = .ok (.getfield 13, 3) := by decide +kernel
theorem dX4_mean_28 : decode cX4_mean 28 = .ok (.iload_n 1, 1) := by decide +kernel
theorem dX4_mean_29 : decode cX4_mean 29 = .ok (.iaload, 1) := by decide +kernel
theorem dX4_mean_30 : decode cX4_mean 30 = .ok (.ifCond .ne 9, 3) := by decide +kernel
theorem dX4_mean_33 : decode cX4_mean 33 = .ok (.aload_n 0, 1) := by decide +kernel
theorem dX4_mean_34 : decode cX4_mean 34 = .ok (.iconst 4, 1) := by decide +kernel
theorem dX4_mean_35 : decode cX4_mean 35 = .ok (.invokevirtual 84, 3) := by decide +kernel
theorem dX4_mean_38 : decode cX4_mean 38 = .ok (.ireturn, 1) := by decide +kernel
theorem dX4_mean_39 : decode cX4_mean 39 = .ok (.lconst 0, 1) := by decide +kernel
theorem dX4_mean_40 : decode cX4_mean 40 = .ok (.lstore_n 2, 1) := by decide +kernel
theorem dX4_mean_41 : decode cX4_mean 41 = .ok (.iconst 0, 1) := by decide +kernel
theorem dX4_mean_42 : decode cX4_mean 42 = .ok (.istore 4, 2) := by decide +kernel
theorem dX4_mean_44 : decode cX4_mean 44 = .ok (.iload 4, 2) := by decide +kernel
theorem dX4_mean_46 : decode cX4_mean 46 = .ok (.aload_n 0, 1) := by decide +kernel
theorem dX4_mean_47 : decode cX4_mean 47 = .ok (.getfield 13, 3) := by decide +kernel
theorem dX4_mean_50 : decode cX4_mean 50 = .ok (.iload_n 1, 1) := by decide +kernel
theorem dX4_mean_51 : decode cX4_mean 51 = .ok (.iaload, 1) := by decide +kernel
theorem dX4_mean_52 : decode cX4_mean 52 = .ok (.if_icmp .ge 25, 3) := by decide +kernel
theorem dX4_mean_55 : decode cX4_mean 55 = .ok (.lload_n 2, 1) := by decide +kernel
theorem dX4_mean_56 : decode cX4_mean 56 = .ok (.aload_n 0, 1) := by decide +kernel
theorem dX4_mean_57 : decode cX4_mean 57 = .ok (.getfield 7, 3) := by decide +kernel
theorem dX4_mean_60 : decode cX4_mean 60 = .ok (.bipush 40, 2) := by decide +kernel
theorem dX4_mean_62 : decode cX4_mean 62 = .ok (.iload_n 1, 1) := by decide +kernel
theorem dX4_mean_63 : decode cX4_mean 63 = .ok (.imul, 1) := by decide +kernel
theorem dX4_mean_64 : decode cX4_mean 64 = .ok (.iload 4, 2) := by decide +kernel
theorem dX4_mean_66 : decode cX4_mean 66 = .ok (.iadd, 1) := by decide +kernel
theorem dX4_mean_67 : decode cX4_mean 67 = .ok (.iaload, 1) := by decide +kernel
theorem dX4_mean_68 : decode cX4_mean 68 = .ok (.i2l, 1) := by decide +kernel
theorem dX4_mean_69 : decode cX4_mean 69 = .ok (.ladd, 1) := by decide +kernel
theorem dX4_mean_70 : decode cX4_mean 70 = .ok (.lstore_n 2, 1) := by decide +kernel
theorem dX4_mean_71 : decode cX4_mean 71 = .ok (.iinc 4 1, 3) := by decide +kernel
theorem dX4_mean_74 : decode cX4_mean 74 = .ok (.goto (-30), 3) := by decide +kernel
theorem dX4_mean_77 : decode cX4_mean 77 = .ok (.aload_n 0, 1) := by decide +kernel
theorem dX4_mean_78 : decode cX4_mean 78 = .ok (.lload_n 2, 1) := by decide +kernel
theorem dX4_mean_79 : decode cX4_mean 79 = .ok (.aload_n 0, 1) := by decide +kernel
theorem dX4_mean_80 : decode cX4_mean 80 = .ok (.getfield 13, 3) := by decide +kernel
theorem dX4_mean_83 : decode cX4_mean 83 = .ok (.iload_n 1, 1) := by decide +kernel
theorem dX4_mean_84 : decode cX4_mean 84 = .ok (.iaload, 1) := by decide +kernel
theorem dX4_mean_85 : decode cX4_mean 85 = .ok (.i2l, 1) := by decide +kernel
theorem dX4_mean_86 : decode cX4_mean 86 = .ok (.ldiv, 1) := by decide +kernel
theorem dX4_mean_87 : decode cX4_mean 87 = .ok (.l2i, 1) := by decide +kernel
theorem dX4_mean_88 : decode cX4_mean 88 = .ok (.invokevirtual 88, 3) := by decide +kernel
theorem dX4_mean_91 : decode cX4_mean 91 = .ok (.ireturn, 1) := by decide +kernel
theorem dX4_text_0 : decode cX4_text 0 = .ok (.iload_n 1, 1) := by decide +kernel
theorem dX4_text_1 : decode cX4_text 1 = .ok (.invokestatic 91, 3) := by decide +kernel
theorem dX4_text_4 : decode cX4_text 4 = .ok (.ifCond .eq 9, 3) := by decide +kernel
theorem dX4_text_7 : decode cX4_text 7 = .ok (.iload_n 2, 1) := by decide +kernel
theorem dX4_text_8 : decode cX4_text 8 = .ok (.bipush 60, 2) := by decide +kernel
theorem dX4_text_10 : decode cX4_text 10 = .ok (.if_icmp .le 5, 3) := by decide +kernel
theorem dX4_text_13 : decode cX4_text 13 = .ok (.iconst (-1), 1) := by decide +kernel
theorem dX4_text_14 : decode cX4_text 14 = .ok (.ireturn, 1) := by decide +kernel
theorem dX4_text_15 : decode cX4_text 15 = .ok (.iload_n 2, 1) := by decide +kernel
theorem dX4_text_16 : decode cX4_text 16 = .ok (.ifCond .ge 9, 3) := by decide +kernel
theorem dX4_text_19 : decode cX4_text 19 = .ok (.aload_n 0, 1) := by decide +kernel
theorem dX4_text_20 : decode cX4_text 20 = .ok (.iconst 5, 1) := by decide +kernel
theorem dX4_text_21 : decode cX4_text 21 = .ok (.invokevirtual 84, 3) := by decide +kernel
theorem dX4_text_24 : decode cX4_text 24 = .ok (.ireturn, 1) := by decide +kernel
theorem dX4_text_25 : decode cX4_text 25 = .ok (.aload_n 0, 1) := by decide +kernel
theorem dX4_text_26 : decode cX4_text 26 = .ok (.getfield 19, 3) := by decide +kernel
theorem dX4_text_29 : decode cX4_text 29 = .ok (.iload_n 1, 1) := by decide +kernel
theorem dX4_text_30 : decode cX4_text 30 = .ok (.iload_n 2, 1) := by decide +kernel
theorem dX4_text_31 : decode cX4_text 31 = .ok (.iastore, 1) := by decide +kernel
theorem dX4_text_32 : decode cX4_text 32 = .ok (.iconst 0, 1) := by decide +kernel
theorem dX4_text_33 : decode cX4_text 33 = .ok (.istore_n 3, 1) := by decide +kernel
theorem dX4_text_34 : decode cX4_text 34 = .ok (.iload_n 3, 1) := by decide +kernel
theorem dX4_text_35 : decode cX4_text 35 = .ok (.bipush 60, 2) := by decide +kernel
theorem dX4_text_37 : decode cX4_text 37 = .ok (.if_icmp .ge 22, 3) := by decide +kernel
theorem dX4_text_40 : decode cX4_text 40 = .ok (.aload_n 0, 1) := by decide +kernel
theorem dX4_text_41 : decode cX4_text 41 = .ok (.getfield 16, 3) := by decide +kernel
theorem dX4_text_44 : decode cX4_text 44 = .ok (.bipush 60, 2) := by decide +kernel
theorem dX4_text_46 : decode cX4_text 46 = .ok (.iload_n 1, 1) := by decide +kernel
theorem dX4_text_47 : decode cX4_text 47 = .ok (.imul, 1) := by decide +kernel
theorem dX4_text_48 : decode cX4_text 48 = .ok (.iload_n 3, 1) := by decide +kernel
theorem dX4_text_49 : decode cX4_text 49 = .ok (.iadd, 1) := by decide +kernel
theorem dX4_text_50 : decode cX4_text 50 = .ok (.bipush 32, 2) := by decide +kernel
theorem dX4_text_52 : decode cX4_text 52 = .ok (.iastore, 1) := by decide +kernel
theorem dX4_text_53 : decode cX4_text 53 = .ok (.iinc 3 1, 3) := by decide +kernel
theorem dX4_text_56 : decode cX4_text 56 = .ok (.goto (-22), 3) := by decide +kernel
theorem dX4_text_59 : decode cX4_text 59 = .ok (.iload_n 2, 1) := by decide +kernel
theorem dX4_text_60 : decode cX4_text 60 = .ok (.ireturn, 1) := by decide +kernel
theorem dX4_put_0 : decode cX4_put 0 = .ok (.iload_n 1, 1) := by decide +kernel
theorem dX4_put_1 : decode cX4_put 1 = .ok (.invokestatic 91, 3) := by decide +kernel
theorem dX4_put_4 : decode cX4_put 4 = .ok (.ifCond .ne 5, 3) := by decide +kernel
theorem dX4_put_7 : decode cX4_put 7 = .ok (.iconst (-1), 1) := by decide +kernel
theorem dX4_put_8 : decode cX4_put 8 = .ok (.ireturn, 1) := by decide +kernel
theorem dX4_put_9 : decode cX4_put 9 = .ok (.aload_n 0, 1) := by decide +kernel
theorem dX4_put_10 : decode cX4_put 10 = .ok (.getfield 19, 3) := by decide +kernel
theorem dX4_put_13 : decode cX4_put 13 = .ok (.iload_n 1, 1) := by decide +kernel
theorem dX4_put_14 : decode cX4_put 14 = .ok (.iaload, 1) := by decide +kernel
theorem dX4_put_15 : decode cX4_put 15 = .ok (.ifCond .ge 9, 3) := by decide +kernel
theorem dX4_put_18 : decode cX4_put 18 = .ok (.aload_n 0, 1) := by decide +kernel
theorem dX4_put_19 : decode cX4_put 19 = .ok (.iconst 1, 1) := by decide +kernel
theorem dX4_put_20 : decode cX4_put 20 = .ok (.invokevirtual 84, 3) := by decide +kernel
theorem dX4_put_23 : decode cX4_put 23 = .ok (.ireturn, 1) := by decide +kernel
theorem dX4_put_24 : decode cX4_put 24 = .ok (.iload_n 2, 1) := by decide +kernel
theorem dX4_put_25 : decode cX4_put 25 = .ok (.i2l, 1) := by decide +kernel
theorem dX4_put_26 : decode cX4_put 26 = .ok (.lconst 0, 1) := by decide +kernel
theorem dX4_put_27 : decode cX4_put 27 = .ok (.aload_n 0, 1) := by decide +kernel
theorem dX4_put_28 : decode cX4_put 28 = .ok (.getfield 19, 3) := by decide +kernel
theorem dX4_put_31 : decode cX4_put 31 = .ok (.iload_n 1, 1) := by decide +kernel
theorem dX4_put_32 : decode cX4_put 32 = .ok (.iaload, 1) := by decide +kernel
theorem dX4_put_33 : decode cX4_put 33 = .ok (.iconst 1, 1) := by decide +kernel
theorem dX4_put_34 : decode cX4_put 34 = .ok (.isub, 1) := by decide +kernel
theorem dX4_put_35 : decode cX4_put 35 = .ok (.i2l, 1) := by decide +kernel
theorem dX4_put_36 : decode cX4_put 36 = .ok (.invokestatic 74, 3) := by decide +kernel
theorem dX4_put_39 : decode cX4_put 39 = .ok (.ifCond .ne 9, 3) := by decide +kernel
theorem dX4_put_42 : decode cX4_put 42 = .ok (.aload_n 0, 1) := by decide +kernel
theorem dX4_put_43 : decode cX4_put 43 = .ok (.iconst 2, 1) := by decide +kernel
theorem dX4_put_44 : decode cX4_put 44 = .ok (.invokevirtual 84, 3) := by decide +kernel
theorem dX4_put_47 : decode cX4_put 47 = .ok (.ireturn, 1) := by decide +kernel
theorem dX4_put_48 : decode cX4_put 48 = .ok (.aload_n 0, 1) := by decide +kernel
theorem dX4_put_49 : decode cX4_put 49 = .ok (.getfield 16, 3) := by decide +kernel
theorem dX4_put_52 : decode cX4_put 52 = .ok (.bipush 60, 2) := by decide +kernel
theorem dX4_put_54 : decode cX4_put 54 = .ok (.iload_n 1, 1) := by decide +kernel
theorem dX4_put_55 : decode cX4_put 55 = .ok (.imul, 1) := by decide +kernel
theorem dX4_put_56 : decode cX4_put 56 = .ok (.iload_n 2, 1) := by decide +kernel
theorem dX4_put_57 : decode cX4_put 57 = .ok (.iadd, 1) := by decide +kernel
theorem dX4_put_58 : decode cX4_put 58 = .ok (.iaload, 1) := by decide +kernel
theorem dX4_put_59 : decode cX4_put 59 = .ok (.istore 4, 2) := by decide +kernel
theorem dX4_put_61 : decode cX4_put 61 = .ok (.aload_n 0, 1) := by decide +kernel
theorem dX4_put_62 : decode cX4_put 62 = .ok (.getfield 16, 3) := by decide +kernel
theorem dX4_put_65 : decode cX4_put 65 = .ok (.bipush 60, 2) := by decide +kernel
theorem dX4_put_67 : decode cX4_put 67 = .ok (.iload_n 1, 1) := by decide +kernel
theorem dX4_put_68 : decode cX4_put 68 = .ok (.imul, 1) := by decide +kernel
theorem dX4_put_69 : decode cX4_put 69 = .ok (.iload_n 2, 1) := by decide +kernel
theorem dX4_put_70 : decode cX4_put 70 = .ok (.iadd, 1) := by decide +kernel
theorem dX4_put_71 : decode cX4_put 71 = .ok (.iload_n 3, 1) := by decide +kernel
theorem dX4_put_72 : decode cX4_put 72 = .ok (.i2b, 1) := by decide +kernel
theorem dX4_put_73 : decode cX4_put 73 = .ok (.iastore, 1) := by decide +kernel
theorem dX4_put_74 : decode cX4_put 74 = .ok (.iload 4, 2) := by decide +kernel
theorem dX4_put_76 : decode cX4_put 76 = .ok (.sipush 1000, 3) := by decide +kernel
theorem dX4_put_79 : decode cX4_put 79 = .ok (.iadd, 1) := by decide +kernel
theorem dX4_put_80 : decode cX4_put 80 = .ok (.ireturn, 1) := by decide +kernel
theorem dX4_copies_0 : decode cX4_copies 0 = .ok (.iconst 0, 1) := by decide +kernel
theorem dX4_copies_1 : decode cX4_copies 1 = .ok (.istore 5, 2) := by decide +kernel
theorem dX4_copies_3 : decode cX4_copies 3 = .ok (.iload 5, 2) := by decide +kernel
theorem dX4_copies_5 : decode cX4_copies 5 = .ok (.iload 4, 2) := by decide +kernel
theorem dX4_copies_7 : decode cX4_copies 7 = .ok (.if_icmp .ge 21, 3) := by decide +kernel
theorem dX4_copies_10 : decode cX4_copies 10 = .ok (.aload_n 2, 1) := by decide +kernel
theorem dX4_copies_11 : decode cX4_copies 11 = .ok (.iload_n 3, 1) := by decide +kernel
theorem dX4_copies_12 : decode cX4_copies 12 = .ok (.iload 5, 2) := by decide +kernel
theorem dX4_copies_14 : decode cX4_copies 14 = .ok (.iadd, 1) := by decide +kernel
theorem dX4_copies_15 : decode cX4_copies 15 = .ok (.aload_n 0, 1) := by decide +kernel
theorem dX4_copies_16 : decode cX4_copies 16 = .ok (.iload_n 1, 1) := by decide +kernel
theorem dX4_copies_17 : decode cX4_copies 17 = .ok (.iload 5, 2) := by decide +kernel
theorem dX4_copies_19 : decode cX4_copies 19 = .ok (.iadd, 1) := by decide +kernel
theorem dX4_copies_20 : decode cX4_copies 20 = .ok (.iaload, 1) := by decide +kernel
theorem dX4_copies_21 : decode cX4_copies 21 = .ok (.iastore, 1) := by decide +kernel
theorem dX4_copies_22 : decode cX4_copies 22 = .ok (.iinc 5 1, 3) := by decide +kernel
theorem dX4_copies_25 : decode cX4_copies 25 = .ok (.goto (-22), 3) := by decide +kernel
theorem dX4_copies_28 : decode cX4_copies 28 = .ok (.return_, 1) := by decide +kernel
theorem dX4_forgets_0 : decode cX4_forgets 0 = .ok (.aload_n 0, 1) := by decide +kernel
theorem dX4_forgets_1 : decode cX4_forgets 1 = .ok (.getfield 38, 3) := by decide +kernel
theorem dX4_forgets_4 : decode cX4_forgets 4 = .ok (.iconst 0, 1) := by decide +kernel
theorem dX4_forgets_5 : decode cX4_forgets 5 = .ok (.iconst 0, 1) := by decide +kernel
theorem dX4_forgets_6 : decode cX4_forgets 6 = .ok (.iastore, 1) := by decide +kernel
theorem dX4_forgets_7 : decode cX4_forgets 7 = .ok (.iconst 0, 1) := by decide +kernel
theorem dX4_forgets_8 : decode cX4_forgets 8 = .ok (.istore_n 1, 1) := by decide +kernel
theorem dX4_forgets_9 : decode cX4_forgets 9 = .ok (.iload_n 1, 1) := by decide +kernel
theorem dX4_forgets_10 : decode cX4_forgets 10 = .ok (.bipush 6, 2) := by decide +kernel
theorem dX4_forgets_12 : decode cX4_forgets 12 = .ok (.if_icmp .ge 19, 3) := by decide +kernel
theorem dX4_forgets_15 : decode cX4_forgets 15 = .ok (.aload_n 0, 1) := by decide +kernel
theorem dX4_forgets_16 : decode cX4_forgets 16 = .ok (.getfield 38, 3) := by decide +kernel
theorem dX4_forgets_19 : decode cX4_forgets 19 = .ok (.bipush 7, 2) := by decide +kernel
theorem dX4_forgets_21 : decode cX4_forgets 21 = .ok (.iload_n 1, 1) := by decide +kernel
theorem dX4_forgets_22 : decode cX4_forgets 22 = .ok (.iadd, 1) := by decide +kernel
theorem dX4_forgets_23 : decode cX4_forgets 23 = .ok (.iconst 0, 1) := by decide +kernel
theorem dX4_forgets_24 : decode cX4_forgets 24 = .ok (.iastore, 1) := by decide +kernel
theorem dX4_forgets_25 : decode cX4_forgets 25 = .ok (.iinc 1 1, 3) := by decide +kernel
theorem dX4_forgets_28 : decode cX4_forgets 28 = .ok (.goto (-19), 3) := by decide +kernel
theorem dX4_forgets_31 : decode cX4_forgets 31 = .ok (.aload_n 0, 1) := by decide +kernel
theorem dX4_forgets_32 : decode cX4_forgets 32 = .ok (.iconst 0, 1) := by decide +kernel
theorem dX4_forgets_33 : decode cX4_forgets 33 = .ok (.putfield 94, 3) := by decide +kernel
theorem dX4_forgets_36 : decode cX4_forgets 36 = .ok (.iconst 0, 1) := by decide +kernel
theorem dX4_forgets_37 : decode cX4_forgets 37 = .ok (.istore_n 1, 1) := by decide +kernel
theorem dX4_forgets_38 : decode cX4_forgets 38 = .ok (.iload_n 1, 1) := by decide +kernel
theorem dX4_forgets_39 : decode cX4_forgets 39 = .ok (.iconst 3, 1) := by decide +kernel
theorem dX4_forgets_40 : decode cX4_forgets 40 = .ok (.if_icmp .ge 20, 3) := by decide +kernel
theorem dX4_forgets_43 : decode cX4_forgets 43 = .ok (.aload_n 0, 1) := by decide +kernel
theorem dX4_forgets_44 : decode cX4_forgets 44 = .ok (.getfield 50, 3) := by decide +kernel
theorem dX4_forgets_47 : decode cX4_forgets 47 = .ok (.sipush 534, 3) := by decide +kernel
theorem dX4_forgets_50 : decode cX4_forgets 50 = .ok (.iload_n 1, 1) := by decide +kernel
theorem dX4_forgets_51 : decode cX4_forgets 51 = .ok (.imul, 1) := by decide +kernel
theorem dX4_forgets_52 : decode cX4_forgets 52 = .ok (.iconst (-1), 1) := by decide +kernel
theorem dX4_forgets_53 : decode cX4_forgets 53 = .ok (.iastore, 1) := by decide +kernel
theorem dX4_forgets_54 : decode cX4_forgets 54 = .ok (.iinc 1 1, 3) := by decide +kernel
theorem dX4_forgets_57 : decode cX4_forgets 57 = .ok (.goto (-19), 3) := by decide +kernel
theorem dX4_forgets_60 : decode cX4_forgets 60 = .ok (.return_, 1) := by decide +kernel
theorem dX4_here_0 : decode cX4_here 0 = .ok (.aload_n 0, 1) := by decide +kernel
theorem dX4_here_1 : decode cX4_here 1 = .ok (.getfield 97, 3) := by decide +kernel
theorem dX4_here_4 : decode cX4_here 4 = .ok (.aload_n 0, 1) := by decide +kernel
theorem dX4_here_5 : decode cX4_here 5 = .ok (.getfield 100, 3) := by decide +kernel
theorem dX4_here_8 : decode cX4_here 8 = .ok (.if_icmp .ge 23, 3) := by decide +kernel
theorem dX4_here_11 : decode cX4_here 11 = .ok (.aload_n 0, 1) := by decide +kernel
theorem dX4_here_12 : decode cX4_here 12 = .ok (.getfield 16, 3) := by decide +kernel
theorem dX4_here_15 : decode cX4_here 15 = .ok (.bipush 60, 2) := by decide +kernel
theorem dX4_here_17 : decode cX4_here 17 = .ok (.aload_n 0, 1) := by decide +kernel
theorem dX4_here_18 : decode cX4_here 18 = .ok (.getfield 103, 3) := by decide +kernel
theorem dX4_here_21 : decode cX4_here 21 = .ok (.imul, 1) := by decide +kernel
theorem dX4_here_22 : decode cX4_here 22 = .ok (.aload_n 0, 1) := by decide +kernel
theorem dX4_here_23 : decode cX4_here 23 = .ok (.getfield 97, 3) := by decide +kernel
theorem dX4_here_26 : decode cX4_here 26 = .ok (.iadd, 1) := by decide +kernel
theorem dX4_here_27 : decode cX4_here 27 = .ok (.iaload, 1) := by decide +kernel
theorem dX4_here_28 : decode cX4_here 28 = .ok (.goto 4, 3) := by decide +kernel
theorem dX4_here_31 : decode cX4_here 31 = .ok (.iconst (-1), 1) := by decide +kernel
theorem dX4_here_32 : decode cX4_here 32 = .ok (.ireturn, 1) := by decide +kernel
theorem dX4_kindOf_0 : decode cX4_kindOf 0 = .ok (.iload_n 0, 1) := by decide +kernel
theorem dX4_kindOf_1 : decode cX4_kindOf 1 = .ok (.tableswitch 75 106 117 #[71, 63, 75, 67, 75, 75, 69, 75, 75, 65, 75, 73], 63) := by decide +kernel
theorem dX4_kindOf_64 : decode cX4_kindOf 64 = .ok (.iconst 0, 1) := by decide +kernel
theorem dX4_kindOf_65 : decode cX4_kindOf 65 = .ok (.ireturn, 1) := by decide +kernel
theorem dX4_kindOf_66 : decode cX4_kindOf 66 = .ok (.iconst 1, 1) := by decide +kernel
theorem dX4_kindOf_67 : decode cX4_kindOf 67 = .ok (.ireturn, 1) := by decide +kernel
theorem dX4_kindOf_68 : decode cX4_kindOf 68 = .ok (.iconst 2, 1) := by decide +kernel
theorem dX4_kindOf_69 : decode cX4_kindOf 69 = .ok (.ireturn, 1) := by decide +kernel
theorem dX4_kindOf_70 : decode cX4_kindOf 70 = .ok (.iconst 3, 1) := by decide +kernel
theorem dX4_kindOf_71 : decode cX4_kindOf 71 = .ok (.ireturn, 1) := by decide +kernel
theorem dX4_kindOf_72 : decode cX4_kindOf 72 = .ok (.iconst 4, 1) := by decide +kernel
theorem dX4_kindOf_73 : decode cX4_kindOf 73 = .ok (.ireturn, 1) := by decide +kernel
theorem dX4_kindOf_74 : decode cX4_kindOf 74 = .ok (.iconst 5, 1) := by decide +kernel
theorem dX4_kindOf_75 : decode cX4_kindOf 75 = .ok (.ireturn, 1) := by decide +kernel
theorem dX4_kindOf_76 : decode cX4_kindOf 76 = .ok (.bipush (-9), 2) := by decide +kernel
theorem dX4_kindOf_78 : decode cX4_kindOf 78 = .ok (.ireturn, 1) := by decide +kernel
theorem dX4_isFigure_0 : decode cX4_isFigure 0 = .ok (.aload_n 0, 1) := by decide +kernel
theorem dX4_isFigure_1 : decode cX4_isFigure 1 = .ok (.invokevirtual 106, 3) := by decide +kernel
theorem dX4_isFigure_4 : decode cX4_isFigure 4 = .ok (.i2l, 1) := by decide +kernel
theorem dX4_isFigure_5 : decode cX4_isFigure 5 = .ok (.ldc2_w 110, 3) := by decide +kernel
theorem dX4_isFigure_8 : decode cX4_isFigure 8 = .ok (.ldc2_w 112, 3) := by decide +kernel
theorem dX4_isFigure_11 : decode cX4_isFigure 11 = .ok (.invokestatic 74, 3) := by decide +kernel
theorem dX4_isFigure_14 : decode cX4_isFigure 14 = .ok (.ifCond .ne 5, 3) := by decide +kernel
theorem dX4_isFigure_17 : decode cX4_isFigure 17 = .ok (.iconst 0, 1) := by decide +kernel
theorem dX4_isFigure_18 : decode cX4_isFigure 18 = .ok (.ireturn, 1) := by decide +kernel
theorem dX4_isFigure_19 : decode cX4_isFigure 19 = .ok (.aload_n 0, 1) := by decide +kernel
theorem dX4_isFigure_20 : decode cX4_isFigure 20 = .ok (.aload_n 0, 1) := by decide +kernel
theorem dX4_isFigure_21 : decode cX4_isFigure 21 = .ok (.invokevirtual 106, 3) := by decide +kernel
theorem dX4_isFigure_24 : decode cX4_isFigure 24 = .ok (.bipush 48, 2) := by decide +kernel
theorem dX4_isFigure_26 : decode cX4_isFigure 26 = .ok (.isub, 1) := by decide +kernel
theorem dX4_isFigure_27 : decode cX4_isFigure 27 = .ok (.putfield 114, 3) := by decide +kernel
theorem dX4_isFigure_30 : decode cX4_isFigure 30 = .ok (.aload_n 0, 1) := by decide +kernel
theorem dX4_isFigure_31 : decode cX4_isFigure 31 = .ok (.dup, 1) := by decide +kernel
theorem dX4_isFigure_32 : decode cX4_isFigure 32 = .ok (.getfield 97, 3) := by decide +kernel
theorem dX4_isFigure_35 : decode cX4_isFigure 35 = .ok (.iconst 1, 1) := by decide +kernel
theorem dX4_isFigure_36 : decode cX4_isFigure 36 = .ok (.iadd, 1) := by decide +kernel
theorem dX4_isFigure_37 : decode cX4_isFigure 37 = .ok (.putfield 97, 3) := by decide +kernel
theorem dX4_isFigure_40 : decode cX4_isFigure 40 = .ok (.iconst 1, 1) := by decide +kernel
theorem dX4_isFigure_41 : decode cX4_isFigure 41 = .ok (.ireturn, 1) := by decide +kernel
theorem dX4_skips_0 : decode cX4_skips 0 = .ok (.aload_n 0, 1) := by decide +kernel
theorem dX4_skips_1 : decode cX4_skips 1 = .ok (.invokevirtual 106, 3) := by decide +kernel
theorem dX4_skips_4 : decode cX4_skips 4 = .ok (.bipush 32, 2) := by decide +kernel
theorem dX4_skips_6 : decode cX4_skips 6 = .ok (.if_icmp .ne 16, 3) := by decide +kernel
theorem dX4_skips_9 : decode cX4_skips 9 = .ok (.aload_n 0, 1) := by decide +kernel
theorem dX4_skips_10 : decode cX4_skips 10 = .ok (.dup, 1) := by decide +kernel
theorem dX4_skips_11 : decode cX4_skips 11 = .ok (.getfield 97, 3) := by decide +kernel
theorem dX4_skips_14 : decode cX4_skips 14 = .ok (.iconst 1, 1) := by decide +kernel
theorem dX4_skips_15 : decode cX4_skips 15 = .ok (.iadd, 1) := by decide +kernel
theorem dX4_skips_16 : decode cX4_skips 16 = .ok (.putfield 97, 3) := by decide +kernel
theorem dX4_skips_19 : decode cX4_skips 19 = .ok (.goto (-19), 3) := by decide +kernel
theorem dX4_skips_22 : decode cX4_skips 22 = .ok (.return_, 1) := by decide +kernel
theorem dX4_readsOne_0 : decode cX4_readsOne 0 = .ok (.aload_n 0, 1) := by decide +kernel
theorem dX4_readsOne_1 : decode cX4_readsOne 1 = .ok (.invokevirtual 106, 3) := by decide +kernel
theorem dX4_readsOne_4 : decode cX4_readsOne 4 = .ok (.invokestatic 117, 3) := by decide +kernel
theorem dX4_readsOne_7 : decode cX4_readsOne 7 = .ok (.istore_n 1, 1) := by decide +kernel
theorem dX4_readsOne_8 : decode cX4_readsOne 8 = .ok (.iload_n 1, 1) := by decide +kernel
theorem dX4_readsOne_9 : decode cX4_readsOne 9 = .ok (.bipush (-9), 2) := by decide +kernel
theorem dX4_readsOne_11 : decode cX4_readsOne 11 = .ok (.if_icmp .eq 12, 3) := by decide +kernel
theorem dX4_readsOne_14 : decode cX4_readsOne 14 = .ok (.aload_n 0, 1) := by decide +kernel
theorem dX4_readsOne_15 : decode cX4_readsOne 15 = .ok (.getfield 120, 3) := by decide +kernel
theorem dX4_readsOne_18 : decode cX4_readsOne 18 = .ok (.bipush 6, 2) := by decide +kernel
theorem dX4_readsOne_20 : decode cX4_readsOne 20 = .ok (.if_icmp .ne 5, 3) := by decide +kernel
theorem dX4_readsOne_23 : decode cX4_readsOne 23 = .ok (.iconst 0, 1) := by decide +kernel
theorem dX4_readsOne_24 : decode cX4_readsOne 24 = .ok (.ireturn, 1) := by decide +kernel
theorem dX4_readsOne_25 : decode cX4_readsOne 25 = .ok (.aload_n 0, 1) := by decide +kernel
theorem dX4_readsOne_26 : decode cX4_readsOne 26 = .ok (.dup, 1) := by decide +kernel
theorem dX4_readsOne_27 : decode cX4_readsOne 27 = .ok (.getfield 97, 3) := by decide +kernel
theorem dX4_readsOne_30 : decode cX4_readsOne 30 = .ok (.iconst 1, 1) := by decide +kernel
theorem dX4_readsOne_31 : decode cX4_readsOne 31 = .ok (.iadd, 1) := by decide +kernel
theorem dX4_readsOne_32 : decode cX4_readsOne 32 = .ok (.putfield 97, 3) := by decide +kernel
theorem dX4_readsOne_35 : decode cX4_readsOne 35 = .ok (.aload_n 0, 1) := by decide +kernel
theorem dX4_readsOne_36 : decode cX4_readsOne 36 = .ok (.getfield 53, 3) := by decide +kernel
theorem dX4_readsOne_39 : decode cX4_readsOne 39 = .ok (.iconst 5, 1) := by decide +kernel
theorem dX4_readsOne_40 : decode cX4_readsOne 40 = .ok (.aload_n 0, 1) := by decide +kernel
theorem dX4_readsOne_41 : decode cX4_readsOne 41 = .ok (.getfield 120, 3) := by decide +kernel
theorem dX4_readsOne_44 : decode cX4_readsOne 44 = .ok (.imul, 1) := by decide +kernel
theorem dX4_readsOne_45 : decode cX4_readsOne 45 = .ok (.iload_n 1, 1) := by decide +kernel
theorem dX4_readsOne_46 : decode cX4_readsOne 46 = .ok (.iastore, 1) := by decide +kernel
theorem dX4_readsOne_47 : decode cX4_readsOne 47 = .ok (.iconst 1, 1) := by decide +kernel
theorem dX4_readsOne_48 : decode cX4_readsOne 48 = .ok (.istore_n 2, 1) := by decide +kernel
theorem dX4_readsOne_49 : decode cX4_readsOne 49 = .ok (.iload_n 2, 1) := by decide +kernel
theorem dX4_readsOne_50 : decode cX4_readsOne 50 = .ok (.iconst 5, 1) := by decide +kernel
theorem dX4_readsOne_51 : decode cX4_readsOne 51 = .ok (.if_icmp .ge 35, 3) := by decide +kernel
theorem dX4_readsOne_54 : decode cX4_readsOne 54 = .ok (.aload_n 0, 1) := by decide +kernel
theorem dX4_readsOne_55 : decode cX4_readsOne 55 = .ok (.invokevirtual 123, 3) := by decide +kernel
theorem dX4_readsOne_58 : decode cX4_readsOne 58 = .ok (.ifCond .ne 5, 3) := by decide +kernel
theorem dX4_readsOne_61 : decode cX4_readsOne 61 = .ok (.iconst 0, 1) := by decide +kernel
theorem dX4_readsOne_62 : decode cX4_readsOne 62 = .ok (.ireturn, 1) := by decide +kernel
theorem dX4_readsOne_63 : decode cX4_readsOne 63 = .ok (.aload_n 0, 1) := by decide +kernel
theorem dX4_readsOne_64 : decode cX4_readsOne 64 = .ok (.getfield 53, 3) := by decide +kernel
theorem dX4_readsOne_67 : decode cX4_readsOne 67 = .ok (.iconst 5, 1) := by decide +kernel
theorem dX4_readsOne_68 : decode cX4_readsOne 68 = .ok (.aload_n 0, 1) := by decide +kernel
theorem dX4_readsOne_69 : decode cX4_readsOne 69 = .ok (.getfield 120, 3) := by decide +kernel
theorem dX4_readsOne_72 : decode cX4_readsOne 72 = .ok (.imul, 1) := by decide +kernel
theorem dX4_readsOne_73 : decode cX4_readsOne 73 = .ok (.iload_n 2, 1) := by decide +kernel
theorem dX4_readsOne_74 : decode cX4_readsOne 74 = .ok (.iadd, 1) := by decide +kernel
theorem dX4_readsOne_75 : decode cX4_readsOne 75 = .ok (.aload_n 0, 1) := by decide +kernel
theorem dX4_readsOne_76 : decode cX4_readsOne 76 = .ok (.getfield 114, 3) := by decide +kernel
theorem dX4_readsOne_79 : decode cX4_readsOne 79 = .ok (.iastore, 1) := by decide +kernel
theorem dX4_readsOne_80 : decode cX4_readsOne 80 = .ok (.iinc 2 1, 3) := by decide +kernel
theorem dX4_readsOne_83 : decode cX4_readsOne 83 = .ok (.goto (-34), 3) := by decide +kernel
theorem dX4_readsOne_86 : decode cX4_readsOne 86 = .ok (.aload_n 0, 1) := by decide +kernel
theorem dX4_readsOne_87 : decode cX4_readsOne 87 = .ok (.dup, 1) := by decide +kernel
theorem dX4_readsOne_88 : decode cX4_readsOne 88 = .ok (.getfield 120, 3) := by decide +kernel
theorem dX4_readsOne_91 : decode cX4_readsOne 91 = .ok (.iconst 1, 1) := by decide +kernel
theorem dX4_readsOne_92 : decode cX4_readsOne 92 = .ok (.iadd, 1) := by decide +kernel
theorem dX4_readsOne_93 : decode cX4_readsOne 93 = .ok (.putfield 120, 3) := by decide +kernel
theorem dX4_readsOne_96 : decode cX4_readsOne 96 = .ok (.iconst 1, 1) := by decide +kernel
theorem dX4_readsOne_97 : decode cX4_readsOne 97 = .ok (.ireturn, 1) := by decide +kernel
theorem dX4_reads_0 : decode cX4_reads 0 = .ok (.aload_n 0, 1) := by decide +kernel
theorem dX4_reads_1 : decode cX4_reads 1 = .ok (.iload_n 1, 1) := by decide +kernel
theorem dX4_reads_2 : decode cX4_reads 2 = .ok (.putfield 103, 3) := by decide +kernel
theorem dX4_reads_5 : decode cX4_reads 5 = .ok (.aload_n 0, 1) := by decide +kernel
theorem dX4_reads_6 : decode cX4_reads 6 = .ok (.aload_n 0, 1) := by decide +kernel
theorem dX4_reads_7 : decode cX4_reads 7 = .ok (.getfield 19, 3) := by decide +kernel
theorem dX4_reads_10 : decode cX4_reads 10 = .ok (.iload_n 1, 1) := by decide +kernel
theorem dX4_reads_11 : decode cX4_reads 11 = .ok (.iaload, 1) := by decide +kernel
theorem dX4_reads_12 : decode cX4_reads 12 = .ok (.putfield 100, 3) := by decide +kernel
theorem dX4_reads_15 : decode cX4_reads 15 = .ok (.aload_n 0, 1) := by decide +kernel
theorem dX4_reads_16 : decode cX4_reads 16 = .ok (.iconst 0, 1) := by decide +kernel
theorem dX4_reads_17 : decode cX4_reads 17 = .ok (.putfield 97, 3) := by decide +kernel
theorem dX4_reads_20 : decode cX4_reads 20 = .ok (.aload_n 0, 1) := by decide +kernel
theorem dX4_reads_21 : decode cX4_reads 21 = .ok (.iconst 0, 1) := by decide +kernel
theorem dX4_reads_22 : decode cX4_reads 22 = .ok (.putfield 120, 3) := by decide +kernel
theorem dX4_reads_25 : decode cX4_reads 25 = .ok (.iconst 1, 1) := by decide +kernel
theorem dX4_reads_26 : decode cX4_reads 26 = .ok (.istore_n 2, 1) := by decide +kernel
theorem dX4_reads_27 : decode cX4_reads 27 = .ok (.aload_n 0, 1) := by decide +kernel
theorem dX4_reads_28 : decode cX4_reads 28 = .ok (.invokevirtual 127, 3) := by decide +kernel
theorem dX4_reads_31 : decode cX4_reads 31 = .ok (.aload_n 0, 1) := by decide +kernel
theorem dX4_reads_32 : decode cX4_reads 32 = .ok (.getfield 97, 3) := by decide +kernel
theorem dX4_reads_35 : decode cX4_reads 35 = .ok (.aload_n 0, 1) := by decide +kernel
theorem dX4_reads_36 : decode cX4_reads 36 = .ok (.getfield 100, 3) := by decide +kernel
theorem dX4_reads_39 : decode cX4_reads 39 = .ok (.if_icmp .ge 23, 3) := by decide +kernel
theorem dX4_reads_42 : decode cX4_reads 42 = .ok (.iload_n 2, 1) := by decide +kernel
theorem dX4_reads_43 : decode cX4_reads 43 = .ok (.ifCond .eq 19, 3) := by decide +kernel
theorem dX4_reads_46 : decode cX4_reads 46 = .ok (.aload_n 0, 1) := by decide +kernel
theorem dX4_reads_47 : decode cX4_reads 47 = .ok (.invokevirtual 130, 3) := by decide +kernel
theorem dX4_reads_50 : decode cX4_reads 50 = .ok (.istore_n 2, 1) := by decide +kernel
theorem dX4_reads_51 : decode cX4_reads 51 = .ok (.iload_n 2, 1) := by decide +kernel
theorem dX4_reads_52 : decode cX4_reads 52 = .ok (.ifCond .eq (-21), 3) := by decide +kernel
theorem dX4_reads_55 : decode cX4_reads 55 = .ok (.aload_n 0, 1) := by decide +kernel
theorem dX4_reads_56 : decode cX4_reads 56 = .ok (.invokevirtual 127, 3) := by decide +kernel
theorem dX4_reads_59 : decode cX4_reads 59 = .ok (.goto (-28), 3) := by decide +kernel
theorem dX4_reads_62 : decode cX4_reads 62 = .ok (.iload_n 2, 1) := by decide +kernel
theorem dX4_reads_63 : decode cX4_reads 63 = .ok (.ifCond .eq 16, 3) := by decide +kernel
theorem dX4_reads_66 : decode cX4_reads 66 = .ok (.aload_n 0, 1) := by decide +kernel
theorem dX4_reads_67 : decode cX4_reads 67 = .ok (.getfield 120, 3) := by decide +kernel
theorem dX4_reads_70 : decode cX4_reads 70 = .ok (.iconst 1, 1) := by decide +kernel
theorem dX4_reads_71 : decode cX4_reads 71 = .ok (.if_icmp .le 8, 3) := by decide +kernel
theorem dX4_reads_74 : decode cX4_reads 74 = .ok (.bipush (-9), 2) := by decide +kernel
theorem dX4_reads_76 : decode cX4_reads 76 = .ok (.goto 7, 3) := by decide +kernel
theorem dX4_reads_79 : decode cX4_reads 79 = .ok (.aload_n 0, 1) := by decide +kernel
theorem dX4_reads_80 : decode cX4_reads 80 = .ok (.getfield 97, 3) := by decide +kernel
theorem dX4_reads_83 : decode cX4_reads 83 = .ok (.ireturn, 1) := by decide +kernel
theorem dX4_fault_0 : decode cX4_fault 0 = .ok (.iload_n 1, 1) := by decide +kernel
theorem dX4_fault_1 : decode cX4_fault 1 = .ok (.invokestatic 91, 3) := by decide +kernel
theorem dX4_fault_4 : decode cX4_fault 4 = .ok (.ifCond .ne 5, 3) := by decide +kernel
theorem dX4_fault_7 : decode cX4_fault 7 = .ok (.iconst (-1), 1) := by decide +kernel
theorem dX4_fault_8 : decode cX4_fault 8 = .ok (.ireturn, 1) := by decide +kernel
theorem dX4_fault_9 : decode cX4_fault 9 = .ok (.aload_n 0, 1) := by decide +kernel
theorem dX4_fault_10 : decode cX4_fault 10 = .ok (.getfield 19, 3) := by decide +kernel
theorem dX4_fault_13 : decode cX4_fault 13 = .ok (.iload_n 1, 1) := by decide +kernel
theorem dX4_fault_14 : decode cX4_fault 14 = .ok (.iaload, 1) := by decide +kernel
theorem dX4_fault_15 : decode cX4_fault 15 = .ok (.ifCond .ge 11, 3) := by decide +kernel
theorem dX4_fault_18 : decode cX4_fault 18 = .ok (.aload_n 0, 1) := by decide +kernel
theorem dX4_fault_19 : decode cX4_fault 19 = .ok (.iconst 1, 1) := by decide +kernel
theorem dX4_fault_20 : decode cX4_fault 20 = .ok (.invokevirtual 84, 3) := by decide +kernel
theorem dX4_fault_23 : decode cX4_fault 23 = .ok (.goto 8, 3) := by decide +kernel
theorem dX4_fault_26 : decode cX4_fault 26 = .ok (.aload_n 0, 1) := by decide +kernel
theorem dX4_fault_27 : decode cX4_fault 27 = .ok (.iload_n 1, 1) := by decide +kernel
theorem dX4_fault_28 : decode cX4_fault 28 = .ok (.invokevirtual 133, 3) := by decide +kernel
theorem dX4_fault_31 : decode cX4_fault 31 = .ok (.ireturn, 1) := by decide +kernel
theorem dX4_house_0 : decode cX4_house 0 = .ok (.iload_n 1, 1) := by decide +kernel
theorem dX4_house_1 : decode cX4_house 1 = .ok (.invokestatic 91, 3) := by decide +kernel
theorem dX4_house_4 : decode cX4_house 4 = .ok (.ifCond .ne 5, 3) := by decide +kernel
theorem dX4_house_7 : decode cX4_house 7 = .ok (.iconst (-1), 1) := by decide +kernel
theorem dX4_house_8 : decode cX4_house 8 = .ok (.ireturn, 1) := by decide +kernel
theorem dX4_house_9 : decode cX4_house 9 = .ok (.aload_n 0, 1) := by decide +kernel
theorem dX4_house_10 : decode cX4_house 10 = .ok (.getfield 19, 3) := by decide +kernel
theorem dX4_house_13 : decode cX4_house 13 = .ok (.iload_n 1, 1) := by decide +kernel
theorem dX4_house_14 : decode cX4_house 14 = .ok (.iaload, 1) := by decide +kernel
theorem dX4_house_15 : decode cX4_house 15 = .ok (.ifCond .ge 9, 3) := by decide +kernel
theorem dX4_house_18 : decode cX4_house 18 = .ok (.aload_n 0, 1) := by decide +kernel
theorem dX4_house_19 : decode cX4_house 19 = .ok (.iconst 1, 1) := by decide +kernel
theorem dX4_house_20 : decode cX4_house 20 = .ok (.invokevirtual 84, 3) := by decide +kernel
theorem dX4_house_23 : decode cX4_house 23 = .ok (.ireturn, 1) := by decide +kernel
theorem dX4_house_24 : decode cX4_house 24 = .ok (.aload_n 0, 1) := by decide +kernel
theorem dX4_house_25 : decode cX4_house 25 = .ok (.iload_n 1, 1) := by decide +kernel
theorem dX4_house_26 : decode cX4_house 26 = .ok (.invokevirtual 133, 3) := by decide +kernel
theorem dX4_house_29 : decode cX4_house 29 = .ok (.bipush (-9), 2) := by decide +kernel
theorem dX4_house_31 : decode cX4_house 31 = .ok (.if_icmp .eq 6, 3) := by decide +kernel
theorem dX4_house_34 : decode cX4_house 34 = .ok (.bipush (-4), 2) := by decide +kernel
theorem dX4_house_36 : decode cX4_house 36 = .ok (.ireturn, 1) := by decide +kernel
theorem dX4_house_37 : decode cX4_house 37 = .ok (.aload_n 0, 1) := by decide +kernel
theorem dX4_house_38 : decode cX4_house 38 = .ok (.aload_n 0, 1) := by decide +kernel
theorem dX4_house_39 : decode cX4_house 39 = .ok (.getfield 120, 3) := by decide +kernel
theorem dX4_house_42 : decode cX4_house 42 = .ok (.putfield 136, 3) := by decide +kernel
theorem dX4_house_45 : decode cX4_house 45 = .ok (.iconst 0, 1) := by decide +kernel
theorem dX4_house_46 : decode cX4_house 46 = .ok (.istore_n 2, 1) := by decide +kernel
theorem dX4_house_47 : decode cX4_house 47 = .ok (.iload_n 2, 1) := by decide +kernel
theorem dX4_house_48 : decode cX4_house 48 = .ok (.aload_n 0, 1) := by decide +kernel
theorem dX4_house_49 : decode cX4_house 49 = .ok (.getfield 136, 3) := by decide +kernel
theorem dX4_house_52 : decode cX4_house 52 = .ok (.if_icmp .ge 87, 3) := by decide +kernel
theorem dX4_house_55 : decode cX4_house 55 = .ok (.aload_n 0, 1) := by decide +kernel
theorem dX4_house_56 : decode cX4_house 56 = .ok (.getfield 29, 3) := by decide +kernel
theorem dX4_house_59 : decode cX4_house 59 = .ok (.iload_n 2, 1) := by decide +kernel
theorem dX4_house_60 : decode cX4_house 60 = .ok (.aload_n 0, 1) := by decide +kernel
theorem dX4_house_61 : decode cX4_house 61 = .ok (.getfield 53, 3) := by decide +kernel
theorem dX4_house_64 : decode cX4_house 64 = .ok (.iconst 5, 1) := by decide +kernel
theorem dX4_house_65 : decode cX4_house 65 = .ok (.iload_n 2, 1) := by decide +kernel
theorem dX4_house_66 : decode cX4_house 66 = .ok (.imul, 1) := by decide +kernel
theorem dX4_house_67 : decode cX4_house 67 = .ok (.iaload, 1) := by decide +kernel
theorem dX4_house_68 : decode cX4_house 68 = .ok (.iastore, 1) := by decide +kernel
theorem dX4_house_69 : decode cX4_house 69 = .ok (.aload_n 0, 1) := by decide +kernel
theorem dX4_house_70 : decode cX4_house 70 = .ok (.getfield 32, 3) := by decide +kernel
theorem dX4_house_73 : decode cX4_house 73 = .ok (.iload_n 2, 1) := by decide +kernel
theorem dX4_house_74 : decode cX4_house 74 = .ok (.aload_n 0, 1) := by decide +kernel
theorem dX4_house_75 : decode cX4_house 75 = .ok (.getfield 53, 3) := by decide +kernel
theorem dX4_house_78 : decode cX4_house 78 = .ok (.iconst 5, 1) := by decide +kernel
theorem dX4_house_79 : decode cX4_house 79 = .ok (.iload_n 2, 1) := by decide +kernel
theorem dX4_house_80 : decode cX4_house 80 = .ok (.imul, 1) := by decide +kernel
theorem dX4_house_81 : decode cX4_house 81 = .ok (.iconst 1, 1) := by decide +kernel
theorem dX4_house_82 : decode cX4_house 82 = .ok (.iadd, 1) := by decide +kernel
theorem dX4_house_83 : decode cX4_house 83 = .ok (.iaload, 1) := by decide +kernel
theorem dX4_house_84 : decode cX4_house 84 = .ok (.iastore, 1) := by decide +kernel
theorem dX4_house_85 : decode cX4_house 85 = .ok (.aload_n 0, 1) := by decide +kernel
theorem dX4_house_86 : decode cX4_house 86 = .ok (.getfield 35, 3) := by decide +kernel
theorem dX4_house_89 : decode cX4_house 89 = .ok (.iload_n 2, 1) := by decide +kernel
theorem dX4_house_90 : decode cX4_house 90 = .ok (.aload_n 0, 1) := by decide +kernel
theorem dX4_house_91 : decode cX4_house 91 = .ok (.getfield 53, 3) := by decide +kernel
theorem dX4_house_94 : decode cX4_house 94 = .ok (.iconst 5, 1) := by decide +kernel
theorem dX4_house_95 : decode cX4_house 95 = .ok (.iload_n 2, 1) := by decide +kernel
theorem dX4_house_96 : decode cX4_house 96 = .ok (.imul, 1) := by decide +kernel
theorem dX4_house_97 : decode cX4_house 97 = .ok (.iconst 2, 1) := by decide +kernel
theorem dX4_house_98 : decode cX4_house 98 = .ok (.iadd, 1) := by decide +kernel
theorem dX4_house_99 : decode cX4_house 99 = .ok (.iaload, 1) := by decide +kernel
theorem dX4_house_100 : decode cX4_house 100 = .ok (.iastore, 1) := by decide +kernel
theorem dX4_house_101 : decode cX4_house 101 = .ok (.aload_n 0, 1) := by decide +kernel
theorem dX4_house_102 : decode cX4_house 102 = .ok (.getfield 38, 3) := by decide +kernel
theorem dX4_house_105 : decode cX4_house 105 = .ok (.iconst 1, 1) := by decide +kernel
theorem dX4_house_106 : decode cX4_house 106 = .ok (.iload_n 2, 1) := by decide +kernel
theorem dX4_house_107 : decode cX4_house 107 = .ok (.iadd, 1) := by decide +kernel
theorem dX4_house_108 : decode cX4_house 108 = .ok (.bipush 10, 2) := by decide +kernel
theorem dX4_house_110 : decode cX4_house 110 = .ok (.aload_n 0, 1) := by decide +kernel
theorem dX4_house_111 : decode cX4_house 111 = .ok (.getfield 53, 3) := by decide +kernel
theorem dX4_house_114 : decode cX4_house 114 = .ok (.iconst 5, 1) := by decide +kernel
theorem dX4_house_115 : decode cX4_house 115 = .ok (.iload_n 2, 1) := by decide +kernel
theorem dX4_house_116 : decode cX4_house 116 = .ok (.imul, 1) := by decide +kernel
theorem dX4_house_117 : decode cX4_house 117 = .ok (.iconst 3, 1) := by decide +kernel
theorem dX4_house_118 : decode cX4_house 118 = .ok (.iadd, 1) := by decide +kernel
theorem dX4_house_119 : decode cX4_house 119 = .ok (.iaload, 1) := by decide +kernel
theorem dX4_house_120 : decode cX4_house 120 = .ok (.imul, 1) := by decide +kernel
theorem dX4_house_121 : decode cX4_house 121 = .ok (.aload_n 0, 1) := by decide +kernel
theorem dX4_house_122 : decode cX4_house 122 = .ok (.getfield 53, 3) := by decide +kernel
theorem dX4_house_125 : decode cX4_house 125 = .ok (.iconst 5, 1) := by decide +kernel
theorem dX4_house_126 : decode cX4_house 126 = .ok (.iload_n 2, 1) := by decide +kernel
theorem dX4_house_127 : decode cX4_house 127 = .ok (.imul, 1) := by decide +kernel
theorem dX4_house_128 : decode cX4_house 128 = .ok (.iconst 4, 1) := by decide +kernel
theorem dX4_house_129 : decode cX4_house 129 = .ok (.iadd, 1) := by decide +kernel
theorem dX4_house_130 : decode cX4_house 130 = .ok (.iaload, 1) := by decide +kernel
theorem dX4_house_131 : decode cX4_house 131 = .ok (.iadd, 1) := by decide +kernel
theorem dX4_house_132 : decode cX4_house 132 = .ok (.iastore, 1) := by decide +kernel
theorem dX4_house_133 : decode cX4_house 133 = .ok (.iinc 2 1, 3) := by decide +kernel
theorem dX4_house_136 : decode cX4_house 136 = .ok (.goto (-89), 3) := by decide +kernel
theorem dX4_house_139 : decode cX4_house 139 = .ok (.aload_n 0, 1) := by decide +kernel
theorem dX4_house_140 : decode cX4_house 140 = .ok (.invokevirtual 62, 3) := by decide +kernel
theorem dX4_house_143 : decode cX4_house 143 = .ok (.aload_n 0, 1) := by decide +kernel
theorem dX4_house_144 : decode cX4_house 144 = .ok (.getfield 136, 3) := by decide +kernel
theorem dX4_house_147 : decode cX4_house 147 = .ok (.ireturn, 1) := by decide +kernel
theorem dX4_isOne_0 : decode cX4_isOne 0 = .ok (.iload_n 1, 1) := by decide +kernel
theorem dX4_isOne_1 : decode cX4_isOne 1 = .ok (.i2l, 1) := by decide +kernel
theorem dX4_isOne_2 : decode cX4_isOne 2 = .ok (.lconst 0, 1) := by decide +kernel
theorem dX4_isOne_3 : decode cX4_isOne 3 = .ok (.aload_n 0, 1) := by decide +kernel
theorem dX4_isOne_4 : decode cX4_isOne 4 = .ok (.getfield 136, 3) := by decide +kernel
