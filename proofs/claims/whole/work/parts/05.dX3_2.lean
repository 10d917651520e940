theorem dX3_purseBehind_32 : decode cX3_purseBehind 32 = .ok (.invokevirtual 320, 3) := by decide +kernel
theorem dX3_purseBehind_35 : decode cX3_purseBehind 35 = .ok (.pop, 1) := by decide +kernel
theorem dX3_purseBehind_36 : decode cX3_purseBehind 36 = .ok (.aload_n 0, 1) := by decide +kernel
theorem dX3_purseBehind_37 : decode cX3_purseBehind 37 = .ok (.getfield 31, 3) := by decide +kernel
theorem dX3_purseBehind_40 : decode cX3_purseBehind 40 = .ok (.getfield 176, 3) := by decide +kernel
theorem dX3_purseBehind_43 : decode cX3_purseBehind 43 = .ok (.iload_n 1, 1) := by decide +kernel
theorem dX3_purseBehind_44 : decode cX3_purseBehind 44 = .ok (.iaload, 1) := by decide +kernel
theorem dX3_purseBehind_45 : decode cX3_purseBehind 45 = .ok (.ireturn, 1) := by decide +kernel
theorem dX3_sootBy_0 : decode cX3_sootBy 0 = .ok (.iload_n 1, 1) := by decide +kernel
theorem dX3_sootBy_1 : decode cX3_sootBy 1 = .ok (.iconst 2, 1) := by decide +kernel
theorem dX3_sootBy_2 : decode cX3_sootBy 2 = .ok (.aload_n 0, 1) := by decide +kernel
theorem dX3_sootBy_3 : decode cX3_sootBy 3 = .ok (.getfield 24, 3) := by decide +kernel
theorem dX3_sootBy_6 : decode cX3_sootBy 6 = .ok (.getfield 113, 3) := by decide +kernel
theorem dX3_sootBy_9 : decode cX3_sootBy 9 = .ok (.getfield 116, 3) := by decide +kernel
theorem dX3_sootBy_12 : decode cX3_sootBy 12 = .ok (.iconst 1, 1) := by decide +kernel
theorem dX3_sootBy_13 : decode cX3_sootBy 13 = .ok (.isub, 1) := by decide +kernel
theorem dX3_sootBy_14 : decode cX3_sootBy 14 = .ok (.iload_n 2, 1) := by decide +kernel
theorem dX3_sootBy_15 : decode cX3_sootBy 15 = .ok (.isub, 1) := by decide +kernel
theorem dX3_sootBy_16 : decode cX3_sootBy 16 = .ok (.imul, 1) := by decide +kernel
theorem dX3_sootBy_17 : decode cX3_sootBy 17 = .ok (.ishr, 1) := by decide +kernel
theorem dX3_sootBy_18 : decode cX3_sootBy 18 = .ok (.iconst 3, 1) := by decide +kernel
theorem dX3_sootBy_19 : decode cX3_sootBy 19 = .ok (.iand, 1) := by decide +kernel
theorem dX3_sootBy_20 : decode cX3_sootBy 20 = .ok (.ireturn, 1) := by decide +kernel
theorem dX3_changedBy_0 : decode cX3_changedBy 0 = .ok (.iconst 0, 1) := by decide +kernel
theorem dX3_changedBy_1 : decode cX3_changedBy 1 = .ok (.istore_n 2, 1) := by decide +kernel
theorem dX3_changedBy_2 : decode cX3_changedBy 2 = .ok (.iconst 0, 1) := by decide +kernel
theorem dX3_changedBy_3 : decode cX3_changedBy 3 = .ok (.istore_n 3, 1) := by decide +kernel
theorem dX3_changedBy_4 : decode cX3_changedBy 4 = .ok (.iload_n 3, 1) := by decide +kernel
theorem dX3_changedBy_5 : decode cX3_changedBy 5 = .ok (.aload_n 0, 1) := by decide +kernel
theorem dX3_changedBy_6 : decode cX3_changedBy 6 = .ok (.getfield 24, 3) := by decide +kernel
theorem dX3_changedBy_9 : decode cX3_changedBy 9 = .ok (.getfield 113, 3) := by decide +kernel
theorem dX3_changedBy_12 : decode cX3_changedBy 12 = .ok (.getfield 116, 3) := by decide +kernel
theorem dX3_changedBy_15 : decode cX3_changedBy 15 = .ok (.if_icmp .ge 33, 3) := by decide +kernel
theorem dX3_changedBy_18 : decode cX3_changedBy 18 = .ok (.aload_n 0, 1) := by decide +kernel
theorem dX3_changedBy_19 : decode cX3_changedBy 19 = .ok (.iload_n 1, 1) := by decide +kernel
theorem dX3_changedBy_20 : decode cX3_changedBy 20 = .ok (.iload_n 3, 1) := by decide +kernel
theorem dX3_changedBy_21 : decode cX3_changedBy 21 = .ok (.invokevirtual 323, 3) := by decide +kernel
theorem dX3_changedBy_24 : decode cX3_changedBy 24 = .ok (.aload_n 0, 1) := by decide +kernel
theorem dX3_changedBy_25 : decode cX3_changedBy 25 = .ok (.getfield 24, 3) := by decide +kernel
theorem dX3_changedBy_28 : decode cX3_changedBy 28 = .ok (.getfield 113, 3) := by decide +kernel
theorem dX3_changedBy_31 : decode cX3_changedBy 31 = .ok (.getfield 170, 3) := by decide +kernel
theorem dX3_changedBy_34 : decode cX3_changedBy 34 = .ok (.iload_n 3, 1) := by decide +kernel
theorem dX3_changedBy_35 : decode cX3_changedBy 35 = .ok (.iaload, 1) := by decide +kernel
theorem dX3_changedBy_36 : decode cX3_changedBy 36 = .ok (.if_icmp .eq 6, 3) := by decide +kernel
theorem dX3_changedBy_39 : decode cX3_changedBy 39 = .ok (.iinc 2 1, 3) := by decide +kernel
theorem dX3_changedBy_42 : decode cX3_changedBy 42 = .ok (.iinc 3 1, 3) := by decide +kernel
theorem dX3_changedBy_45 : decode cX3_changedBy 45 = .ok (.goto (-41), 3) := by decide +kernel
theorem dX3_changedBy_48 : decode cX3_changedBy 48 = .ok (.iload_n 2, 1) := by decide +kernel
theorem dX3_changedBy_49 : decode cX3_changedBy 49 = .ok (.ireturn, 1) := by decide +kernel
theorem dX3_evenBy_0 : decode cX3_evenBy 0 = .ok (.aload_n 0, 1) := by decide +kernel
theorem dX3_evenBy_1 : decode cX3_evenBy 1 = .ok (.getfield 31, 3) := by decide +kernel
theorem dX3_evenBy_4 : decode cX3_evenBy 4 = .ok (.aload_n 0, 1) := by decide +kernel
theorem dX3_evenBy_5 : decode cX3_evenBy 5 = .ok (.getfield 24, 3) := by decide +kernel
theorem dX3_evenBy_8 : decode cX3_evenBy 8 = .ok (.getfield 113, 3) := by decide +kernel
theorem dX3_evenBy_11 : decode cX3_evenBy 11 = .ok (.invokevirtual 203, 3) := by decide +kernel
theorem dX3_evenBy_14 : decode cX3_evenBy 14 = .ok (.iconst 0, 1) := by decide +kernel
theorem dX3_evenBy_15 : decode cX3_evenBy 15 = .ok (.istore 5, 2) := by decide +kernel
theorem dX3_evenBy_17 : decode cX3_evenBy 17 = .ok (.iload 5, 2) := by decide +kernel
theorem dX3_evenBy_19 : decode cX3_evenBy 19 = .ok (.aload_n 0, 1) := by decide +kernel
theorem dX3_evenBy_20 : decode cX3_evenBy 20 = .ok (.getfield 31, 3) := by decide +kernel
theorem dX3_evenBy_23 : decode cX3_evenBy 23 = .ok (.getfield 116, 3) := by decide +kernel
theorem dX3_evenBy_26 : decode cX3_evenBy 26 = .ok (.if_icmp .ge 26, 3) := by decide +kernel
theorem dX3_evenBy_29 : decode cX3_evenBy 29 = .ok (.aload_n 0, 1) := by decide +kernel
theorem dX3_evenBy_30 : decode cX3_evenBy 30 = .ok (.getfield 31, 3) := by decide +kernel
theorem dX3_evenBy_33 : decode cX3_evenBy 33 = .ok (.getfield 170, 3) := by decide +kernel
theorem dX3_evenBy_36 : decode cX3_evenBy 36 = .ok (.iload 5, 2) := by decide +kernel
theorem dX3_evenBy_38 : decode cX3_evenBy 38 = .ok (.aload_n 0, 1) := by decide +kernel
theorem dX3_evenBy_39 : decode cX3_evenBy 39 = .ok (.iload_n 1, 1) := by decide +kernel
theorem dX3_evenBy_40 : decode cX3_evenBy 40 = .ok (.iload 5, 2) := by decide +kernel
theorem dX3_evenBy_42 : decode cX3_evenBy 42 = .ok (.invokevirtual 323, 3) := by decide +kernel
theorem dX3_evenBy_45 : decode cX3_evenBy 45 = .ok (.iastore, 1) := by decide +kernel
theorem dX3_evenBy_46 : decode cX3_evenBy 46 = .ok (.iinc 5 1, 3) := by decide +kernel
theorem dX3_evenBy_49 : decode cX3_evenBy 49 = .ok (.goto (-32), 3) := by decide +kernel
theorem dX3_evenBy_52 : decode cX3_evenBy 52 = .ok (.aload_n 0, 1) := by decide +kernel
theorem dX3_evenBy_53 : decode cX3_evenBy 53 = .ok (.getfield 31, 3) := by decide +kernel
theorem dX3_evenBy_56 : decode cX3_evenBy 56 = .ok (.iload 4, 2) := by decide +kernel
theorem dX3_evenBy_58 : decode cX3_evenBy 58 = .ok (.invokevirtual 320, 3) := by decide +kernel
theorem dX3_evenBy_61 : decode cX3_evenBy 61 = .ok (.pop, 1) := by decide +kernel
theorem dX3_evenBy_62 : decode cX3_evenBy 62 = .ok (.aload_n 0, 1) := by decide +kernel
theorem dX3_evenBy_63 : decode cX3_evenBy 63 = .ok (.getfield 31, 3) := by decide +kernel
theorem dX3_evenBy_66 : decode cX3_evenBy 66 = .ok (.getfield 176, 3) := by decide +kernel
theorem dX3_evenBy_69 : decode cX3_evenBy 69 = .ok (.iload_n 2, 1) := by decide +kernel
theorem dX3_evenBy_70 : decode cX3_evenBy 70 = .ok (.iaload, 1) := by decide +kernel
theorem dX3_evenBy_71 : decode cX3_evenBy 71 = .ok (.aload_n 0, 1) := by decide +kernel
theorem dX3_evenBy_72 : decode cX3_evenBy 72 = .ok (.getfield 31, 3) := by decide +kernel
theorem dX3_evenBy_75 : decode cX3_evenBy 75 = .ok (.getfield 176, 3) := by decide +kernel
theorem dX3_evenBy_78 : decode cX3_evenBy 78 = .ok (.iload_n 3, 1) := by decide +kernel
theorem dX3_evenBy_79 : decode cX3_evenBy 79 = .ok (.iaload, 1) := by decide +kernel
theorem dX3_evenBy_80 : decode cX3_evenBy 80 = .ok (.if_icmp .ne 7, 3) := by decide +kernel
theorem dX3_evenBy_83 : decode cX3_evenBy 83 = .ok (.iconst 1, 1) := by decide +kernel
theorem dX3_evenBy_84 : decode cX3_evenBy 84 = .ok (.goto 4, 3) := by decide +kernel
theorem dX3_evenBy_87 : decode cX3_evenBy 87 = .ok (.iconst 0, 1) := by decide +kernel
theorem dX3_evenBy_88 : decode cX3_evenBy 88 = .ok (.ireturn, 1) := by decide +kernel
theorem dX3_laySoot_0 : decode cX3_laySoot 0 = .ok (.aload_n 0, 1) := by decide +kernel
theorem dX3_laySoot_1 : decode cX3_laySoot 1 = .ok (.getfield 14, 3) := by decide +kernel
theorem dX3_laySoot_4 : decode cX3_laySoot 4 = .ok (.iload_n 1, 1) := by decide +kernel
theorem dX3_laySoot_5 : decode cX3_laySoot 5 = .ok (.aload_n 0, 1) := by decide +kernel
theorem dX3_laySoot_6 : decode cX3_laySoot 6 = .ok (.getfield 24, 3) := by decide +kernel
theorem dX3_laySoot_9 : decode cX3_laySoot 9 = .ok (.getfield 113, 3) := by decide +kernel
theorem dX3_laySoot_12 : decode cX3_laySoot 12 = .ok (.getfield 116, 3) := by decide +kernel
theorem dX3_laySoot_15 : decode cX3_laySoot 15 = .ok (.invokevirtual 67, 3) := by decide +kernel
theorem dX3_laySoot_18 : decode cX3_laySoot 18 = .ok (.iconst 0, 1) := by decide +kernel
theorem dX3_laySoot_19 : decode cX3_laySoot 19 = .ok (.istore_n 3, 1) := by decide +kernel
theorem dX3_laySoot_20 : decode cX3_laySoot 20 = .ok (.iload_n 3, 1) := by decide +kernel
theorem dX3_laySoot_21 : decode cX3_laySoot 21 = .ok (.aload_n 0, 1) := by decide +kernel
theorem dX3_laySoot_22 : decode cX3_laySoot 22 = .ok (.getfield 24, 3) := by decide +kernel
theorem dX3_laySoot_25 : decode cX3_laySoot 25 = .ok (.getfield 113, 3) := by decide +kernel
theorem dX3_laySoot_28 : decode cX3_laySoot 28 = .ok (.getfield 116, 3) := by decide +kernel
theorem dX3_laySoot_31 : decode cX3_laySoot 31 = .ok (.if_icmp .ge 26, 3) := by decide +kernel
theorem dX3_laySoot_34 : decode cX3_laySoot 34 = .ok (.aload_n 0, 1) := by decide +kernel
theorem dX3_laySoot_35 : decode cX3_laySoot 35 = .ok (.getfield 14, 3) := by decide +kernel
theorem dX3_laySoot_38 : decode cX3_laySoot 38 = .ok (.getfield 75, 3) := by decide +kernel
theorem dX3_laySoot_41 : decode cX3_laySoot 41 = .ok (.iload_n 1, 1) := by decide +kernel
theorem dX3_laySoot_42 : decode cX3_laySoot 42 = .ok (.aaload, 1) := by decide +kernel
theorem dX3_laySoot_43 : decode cX3_laySoot 43 = .ok (.iload_n 3, 1) := by decide +kernel
theorem dX3_laySoot_44 : decode cX3_laySoot 44 = .ok (.aload_n 0, 1) := by decide +kernel
theorem dX3_laySoot_45 : decode cX3_laySoot 45 = .ok (.iload_n 2, 1) := by decide +kernel
theorem dX3_laySoot_46 : decode cX3_laySoot 46 = .ok (.iload_n 3, 1) := by decide +kernel
theorem dX3_laySoot_47 : decode cX3_laySoot 47 = .ok (.invokevirtual 323, 3) := by decide +kernel
theorem dX3_laySoot_50 : decode cX3_laySoot 50 = .ok (.iastore, 1) := by decide +kernel
theorem dX3_laySoot_51 : decode cX3_laySoot 51 = .ok (.iinc 3 1, 3) := by decide +kernel
theorem dX3_laySoot_54 : decode cX3_laySoot 54 = .ok (.goto (-34), 3) := by decide +kernel
theorem dX3_laySoot_57 : decode cX3_laySoot 57 = .ok (.return_, 1) := by decide +kernel
theorem dX3_givenIfChanged_0 : decode cX3_givenIfChanged 0 = .ok (.aload_n 0, 1) := by decide +kernel
theorem dX3_givenIfChanged_1 : decode cX3_givenIfChanged 1 = .ok (.getfield 31, 3) := by decide +kernel
theorem dX3_givenIfChanged_4 : decode cX3_givenIfChanged 4 = .ok (.aload_n 0, 1) := by decide +kernel
theorem dX3_givenIfChanged_5 : decode cX3_givenIfChanged 5 = .ok (.getfield 24, 3) := by decide +kernel
theorem dX3_givenIfChanged_8 : decode cX3_givenIfChanged 8 = .ok (.getfield 113, 3) := by decide +kernel
theorem dX3_givenIfChanged_11 : decode cX3_givenIfChanged 11 = .ok (.invokevirtual 203, 3) := by decide +kernel
theorem dX3_givenIfChanged_14 : decode cX3_givenIfChanged 14 = .ok (.aload_n 0, 1) := by decide +kernel
theorem dX3_givenIfChanged_15 : decode cX3_givenIfChanged 15 = .ok (.getfield 31, 3) := by decide +kernel
theorem dX3_givenIfChanged_18 : decode cX3_givenIfChanged 18 = .ok (.getfield 143, 3) := by decide +kernel
theorem dX3_givenIfChanged_21 : decode cX3_givenIfChanged 21 = .ok (.iload_n 1, 1) := by decide +kernel
theorem dX3_givenIfChanged_22 : decode cX3_givenIfChanged 22 = .ok (.aload_n 0, 1) := by decide +kernel
theorem dX3_givenIfChanged_23 : decode cX3_givenIfChanged 23 = .ok (.getfield 24, 3) := by decide +kernel
theorem dX3_givenIfChanged_26 : decode cX3_givenIfChanged 26 = .ok (.getfield 113, 3) := by decide +kernel
theorem dX3_givenIfChanged_29 : decode cX3_givenIfChanged 29 = .ok (.getfield 143, 3) := by decide +kernel
theorem dX3_givenIfChanged_32 : decode cX3_givenIfChanged 32 = .ok (.iload_n 2, 1) := by decide +kernel
theorem dX3_givenIfChanged_33 : decode cX3_givenIfChanged 33 = .ok (.iaload, 1) := by decide +kernel
theorem dX3_givenIfChanged_34 : decode cX3_givenIfChanged 34 = .ok (.iastore, 1) := by decide +kernel
theorem dX3_givenIfChanged_35 : decode cX3_givenIfChanged 35 = .ok (.aload_n 0, 1) := by decide +kernel
theorem dX3_givenIfChanged_36 : decode cX3_givenIfChanged 36 = .ok (.getfield 31, 3) := by decide +kernel
theorem dX3_givenIfChanged_39 : decode cX3_givenIfChanged 39 = .ok (.getfield 143, 3) := by decide +kernel
theorem dX3_givenIfChanged_42 : decode cX3_givenIfChanged 42 = .ok (.iload_n 2, 1) := by decide +kernel
theorem dX3_givenIfChanged_43 : decode cX3_givenIfChanged 43 = .ok (.aload_n 0, 1) := by decide +kernel
theorem dX3_givenIfChanged_44 : decode cX3_givenIfChanged 44 = .ok (.getfield 24, 3) := by decide +kernel
theorem dX3_givenIfChanged_47 : decode cX3_givenIfChanged 47 = .ok (.getfield 113, 3) := by decide +kernel
theorem dX3_givenIfChanged_50 : decode cX3_givenIfChanged 50 = .ok (.getfield 143, 3) := by decide +kernel
theorem dX3_givenIfChanged_53 : decode cX3_givenIfChanged 53 = .ok (.iload_n 1, 1) := by decide +kernel
theorem dX3_givenIfChanged_54 : decode cX3_givenIfChanged 54 = .ok (.iaload, 1) := by decide +kernel
theorem dX3_givenIfChanged_55 : decode cX3_givenIfChanged 55 = .ok (.iastore, 1) := by decide +kernel
theorem dX3_givenIfChanged_56 : decode cX3_givenIfChanged 56 = .ok (.aload_n 0, 1) := by decide +kernel
theorem dX3_givenIfChanged_57 : decode cX3_givenIfChanged 57 = .ok (.getfield 31, 3) := by decide +kernel
theorem dX3_givenIfChanged_60 : decode cX3_givenIfChanged 60 = .ok (.iload_n 3, 1) := by decide +kernel
theorem dX3_givenIfChanged_61 : decode cX3_givenIfChanged 61 = .ok (.invokevirtual 320, 3) := by decide +kernel
theorem dX3_givenIfChanged_64 : decode cX3_givenIfChanged 64 = .ok (.ireturn, 1) := by decide +kernel
theorem dX3_fitsPairs_0 : decode cX3_fitsPairs 0 = .ok (.aload_n 0, 1) := by decide +kernel
theorem dX3_fitsPairs_1 : decode cX3_fitsPairs 1 = .ok (.getfield 14, 3) := by decide +kernel
theorem dX3_fitsPairs_4 : decode cX3_fitsPairs 4 = .ok (.getfield 75, 3) := by decide +kernel
theorem dX3_fitsPairs_7 : decode cX3_fitsPairs 7 = .ok (.iload_n 1, 1) := by decide +kernel
theorem dX3_fitsPairs_8 : decode cX3_fitsPairs 8 = .ok (.aaload, 1) := by decide +kernel
theorem dX3_fitsPairs_9 : decode cX3_fitsPairs 9 = .ok (.astore 5, 2) := by decide +kernel
theorem dX3_fitsPairs_11 : decode cX3_fitsPairs 11 = .ok (.iconst 0, 1) := by decide +kernel
theorem dX3_fitsPairs_12 : decode cX3_fitsPairs 12 = .ok (.istore 6, 2) := by decide +kernel
theorem dX3_fitsPairs_14 : decode cX3_fitsPairs 14 = .ok (.iload 6, 2) := by decide +kernel
theorem dX3_fitsPairs_16 : decode cX3_fitsPairs 16 = .ok (.iconst 1, 1) := by decide +kernel
theorem dX3_fitsPairs_17 : decode cX3_fitsPairs 17 = .ok (.iadd, 1) := by decide +kernel
theorem dX3_fitsPairs_18 : decode cX3_fitsPairs 18 = .ok (.aload_n 0, 1) := by decide +kernel
theorem dX3_fitsPairs_19 : decode cX3_fitsPairs 19 = .ok (.getfield 14, 3) := by decide +kernel
theorem dX3_fitsPairs_22 : decode cX3_fitsPairs 22 = .ok (.getfield 85, 3) := by decide +kernel
theorem dX3_fitsPairs_25 : decode cX3_fitsPairs 25 = .ok (.iload_n 1, 1) := by decide +kernel
theorem dX3_fitsPairs_26 : decode cX3_fitsPairs 26 = .ok (.iaload, 1) := by decide +kernel
theorem dX3_fitsPairs_27 : decode cX3_fitsPairs 27 = .ok (.if_icmp .ge 33, 3) := by decide +kernel
theorem dX3_fitsPairs_30 : decode cX3_fitsPairs 30 = .ok (.iload_n 2, 1) := by decide +kernel
theorem dX3_fitsPairs_31 : decode cX3_fitsPairs 31 = .ok (.iload_n 3, 1) := by decide +kernel
theorem dX3_fitsPairs_32 : decode cX3_fitsPairs 32 = .ok (.iload 4, 2) := by decide +kernel
theorem dX3_fitsPairs_34 : decode cX3_fitsPairs 34 = .ok (.aload 5, 2) := by decide +kernel
theorem dX3_fitsPairs_36 : decode cX3_fitsPairs 36 = .ok (.iload 6, 2) := by decide +kernel
theorem dX3_fitsPairs_38 : decode cX3_fitsPairs 38 = .ok (.iaload, 1) := by decide +kernel
theorem dX3_fitsPairs_39 : decode cX3_fitsPairs 39 = .ok (.invokestatic 146, 3) := by decide +kernel
theorem dX3_fitsPairs_42 : decode cX3_fitsPairs 42 = .ok (.aload 5, 2) := by decide +kernel
theorem dX3_fitsPairs_44 : decode cX3_fitsPairs 44 = .ok (.iload 6, 2) := by decide +kernel
theorem dX3_fitsPairs_46 : decode cX3_fitsPairs 46 = .ok (.iconst 1, 1) := by decide +kernel
theorem dX3_fitsPairs_47 : decode cX3_fitsPairs 47 = .ok (.iadd, 1) := by decide +kernel
theorem dX3_fitsPairs_48 : decode cX3_fitsPairs 48 = .ok (.iaload, 1) := by decide +kernel
theorem dX3_fitsPairs_49 : decode cX3_fitsPairs 49 = .ok (.if_icmp .eq 5, 3) := by decide +kernel
theorem dX3_fitsPairs_52 : decode cX3_fitsPairs 52 = .ok (.iconst 0, 1) := by decide +kernel
theorem dX3_fitsPairs_53 : decode cX3_fitsPairs 53 = .ok (.ireturn, 1) := by decide +kernel
theorem dX3_fitsPairs_54 : decode cX3_fitsPairs 54 = .ok (.iinc 6 2, 3) := by decide +kernel
theorem dX3_fitsPairs_57 : decode cX3_fitsPairs 57 = .ok (.goto (-43), 3) := by decide +kernel
theorem dX3_fitsPairs_60 : decode cX3_fitsPairs 60 = .ok (.iconst 1, 1) := by decide +kernel
theorem dX3_fitsPairs_61 : decode cX3_fitsPairs 61 = .ok (.ireturn, 1) := by decide +kernel
theorem dX3_kindsByPairs_0 : decode cX3_kindsByPairs 0 = .ok (.iconst 0, 1) := by decide +kernel
theorem dX3_kindsByPairs_1 : decode cX3_kindsByPairs 1 = .ok (.istore_n 3, 1) := by decide +kernel
theorem dX3_kindsByPairs_2 : decode cX3_kindsByPairs 2 = .ok (.iconst 0, 1) := by decide +kernel
theorem dX3_kindsByPairs_3 : decode cX3_kindsByPairs 3 = .ok (.istore 4, 2) := by decide +kernel
theorem dX3_kindsByPairs_5 : decode cX3_kindsByPairs 5 = .ok (.iload 4, 2) := by decide +kernel
theorem dX3_kindsByPairs_7 : decode cX3_kindsByPairs 7 = .ok (.bipush 6, 2) := by decide +kernel
theorem dX3_kindsByPairs_9 : decode cX3_kindsByPairs 9 = .ok (.if_icmp .ge 50, 3) := by decide +kernel
theorem dX3_kindsByPairs_12 : decode cX3_kindsByPairs 12 = .ok (.aload_n 0, 1) := by decide +kernel
theorem dX3_kindsByPairs_13 : decode cX3_kindsByPairs 13 = .ok (.iload_n 2, 1) := by decide +kernel
theorem dX3_kindsByPairs_14 : decode cX3_kindsByPairs 14 = .ok (.iload 4, 2) := by decide +kernel
theorem dX3_kindsByPairs_16 : decode cX3_kindsByPairs 16 = .ok (.aload_n 0, 1) := by decide +kernel
theorem dX3_kindsByPairs_17 : decode cX3_kindsByPairs 17 = .ok (.getfield 24, 3) := by decide +kernel
theorem dX3_kindsByPairs_20 : decode cX3_kindsByPairs 20 = .ok (.getfield 113, 3) := by decide +kernel
theorem dX3_kindsByPairs_23 : decode cX3_kindsByPairs 23 = .ok (.getfield 143, 3) := by decide +kernel
theorem dX3_kindsByPairs_26 : decode cX3_kindsByPairs 26 = .ok (.iload_n 1, 1) := by decide +kernel
theorem dX3_kindsByPairs_27 : decode cX3_kindsByPairs 27 = .ok (.iaload, 1) := by decide +kernel
theorem dX3_kindsByPairs_28 : decode cX3_kindsByPairs 28 = .ok (.aload_n 0, 1) := by decide +kernel
theorem dX3_kindsByPairs_29 : decode cX3_kindsByPairs 29 = .ok (.getfield 24, 3) := by decide +kernel
theorem dX3_kindsByPairs_32 : decode cX3_kindsByPairs 32 = .ok (.getfield 113, 3) := by decide +kernel
theorem dX3_kindsByPairs_35 : decode cX3_kindsByPairs 35 = .ok (.getfield 170, 3) := by decide +kernel
theorem dX3_kindsByPairs_38 : decode cX3_kindsByPairs 38 = .ok (.iload_n 1, 1) := by decide +kernel
theorem dX3_kindsByPairs_39 : decode cX3_kindsByPairs 39 = .ok (.iaload, 1) := by decide +kernel
theorem dX3_kindsByPairs_40 : decode cX3_kindsByPairs 40 = .ok (.invokevirtual 235, 3) := by decide +kernel
theorem dX3_kindsByPairs_43 : decode cX3_kindsByPairs 43 = .ok (.ifCond .eq 10, 3) := by decide +kernel
theorem dX3_kindsByPairs_46 : decode cX3_kindsByPairs 46 = .ok (.iload_n 3, 1) := by decide +kernel
theorem dX3_kindsByPairs_47 : decode cX3_kindsByPairs 47 = .ok (.iconst 1, 1) := by decide +kernel
theorem dX3_kindsByPairs_48 : decode cX3_kindsByPairs 48 = .ok (.iload 4, 2) := by decide +kernel
theorem dX3_kindsByPairs_50 : decode cX3_kindsByPairs 50 = .ok (.ishl, 1) := by decide +kernel
theorem dX3_kindsByPairs_51 : decode cX3_kindsByPairs 51 = .ok (.ior, 1) := by decide +kernel
theorem dX3_kindsByPairs_52 : decode cX3_kindsByPairs 52 = .ok (.istore_n 3, 1) := by decide +kernel
theorem dX3_kindsByPairs_53 : decode cX3_kindsByPairs 53 = .ok (.iinc 4 1, 3) := by decide +kernel
theorem dX3_kindsByPairs_56 : decode cX3_kindsByPairs 56 = .ok (.goto (-51), 3) := by decide +kernel
theorem dX3_kindsByPairs_59 : decode cX3_kindsByPairs 59 = .ok (.iload_n 3, 1) := by decide +kernel
theorem dX3_kindsByPairs_60 : decode cX3_kindsByPairs 60 = .ok (.ireturn, 1) := by decide +kernel
theorem dX3_greatestPart_0 : decode cX3_greatestPart 0 = .ok (.iconst 0, 1) := by decide +kernel
theorem dX3_greatestPart_1 : decode cX3_greatestPart 1 = .ok (.istore 4, 2) := by decide +kernel
theorem dX3_greatestPart_3 : decode cX3_greatestPart 3 = .ok (.iconst 0, 1) := by decide +kernel
theorem dX3_greatestPart_4 : decode cX3_greatestPart 4 = .ok (.istore 5, 2) := by decide +kernel
theorem dX3_greatestPart_6 : decode cX3_greatestPart 6 = .ok (.iload 5, 2) := by decide +kernel
theorem dX3_greatestPart_8 : decode cX3_greatestPart 8 = .ok (.bipush 6, 2) := by decide +kernel
theorem dX3_greatestPart_10 : decode cX3_greatestPart 10 = .ok (.if_icmp .ge 34, 3) := by decide +kernel
theorem dX3_greatestPart_13 : decode cX3_greatestPart 13 = .ok (.iload_n 2, 1) := by decide +kernel
theorem dX3_greatestPart_14 : decode cX3_greatestPart 14 = .ok (.iload 5, 2) := by decide +kernel
theorem dX3_greatestPart_16 : decode cX3_greatestPart 16 = .ok (.ishr, 1) := by decide +kernel
theorem dX3_greatestPart_17 : decode cX3_greatestPart 17 = .ok (.iconst 1, 1) := by decide +kernel
theorem dX3_greatestPart_18 : decode cX3_greatestPart 18 = .ok (.iand, 1) := by decide +kernel
theorem dX3_greatestPart_19 : decode cX3_greatestPart 19 = .ok (.ifCond .eq 19, 3) := by decide +kernel
theorem dX3_greatestPart_22 : decode cX3_greatestPart 22 = .ok (.iload 4, 2) := by decide +kernel
theorem dX3_greatestPart_24 : decode cX3_greatestPart 24 = .ok (.aload_n 0, 1) := by decide +kernel
theorem dX3_greatestPart_25 : decode cX3_greatestPart 25 = .ok (.iload 5, 2) := by decide +kernel
theorem dX3_greatestPart_27 : decode cX3_greatestPart 27 = .ok (.iload_n 1, 1) := by decide +kernel
theorem dX3_greatestPart_28 : decode cX3_greatestPart 28 = .ok (.iload_n 2, 1) := by decide +kernel
theorem dX3_greatestPart_29 : decode cX3_greatestPart 29 = .ok (.iload_n 3, 1) := by decide +kernel
theorem dX3_greatestPart_30 : decode cX3_greatestPart 30 = .ok (.invokevirtual 326, 3) := by decide +kernel
theorem dX3_greatestPart_33 : decode cX3_greatestPart 33 = .ok (.invokestatic 329, 3) := by decide +kernel
theorem dX3_greatestPart_36 : decode cX3_greatestPart 36 = .ok (.istore 4, 2) := by decide +kernel
theorem dX3_greatestPart_38 : decode cX3_greatestPart 38 = .ok (.iinc 5 1, 3) := by decide +kernel
theorem dX3_greatestPart_41 : decode cX3_greatestPart 41 = .ok (.goto (-35), 3) := by decide +kernel
theorem dX3_greatestPart_44 : decode cX3_greatestPart 44 = .ok (.iload 4, 2) := by decide +kernel
theorem dX3_greatestPart_46 : decode cX3_greatestPart 46 = .ok (.ireturn, 1) := by decide +kernel
theorem dX3_partLike_0 : decode cX3_partLike 0 = .ok (.aload_n 0, 1) := by decide +kernel
theorem dX3_partLike_1 : decode cX3_partLike 1 = .ok (.getfield 24, 3) := by decide +kernel
theorem dX3_partLike_4 : decode cX3_partLike 4 = .ok (.getfield 113, 3) := by decide +kernel
theorem dX3_partLike_7 : decode cX3_partLike 7 = .ok (.getfield 143, 3) := by decide +kernel
theorem dX3_partLike_10 : decode cX3_partLike 10 = .ok (.iload_n 2, 1) := by decide +kernel
theorem dX3_partLike_11 : decode cX3_partLike 11 = .ok (.iaload, 1) := by decide +kernel
theorem dX3_partLike_12 : decode cX3_partLike 12 = .ok (.istore 5, 2) := by decide +kernel
theorem dX3_partLike_14 : decode cX3_partLike 14 = .ok (.aload_n 0, 1) := by decide +kernel
theorem dX3_partLike_15 : decode cX3_partLike 15 = .ok (.getfield 24, 3) := by decide +kernel
theorem dX3_partLike_18 : decode cX3_partLike 18 = .ok (.getfield 113, 3) := by decide +kernel
theorem dX3_partLike_21 : decode cX3_partLike 21 = .ok (.getfield 170, 3) := by decide +kernel
theorem dX3_partLike_24 : decode cX3_partLike 24 = .ok (.iload_n 2, 1) := by decide +kernel
theorem dX3_partLike_25 : decode cX3_partLike 25 = .ok (.iaload, 1) := by decide +kernel
theorem dX3_partLike_26 : decode cX3_partLike 26 = .ok (.istore 6, 2) := by decide +kernel
theorem dX3_partLike_28 : decode cX3_partLike 28 = .ok (.iload_n 1, 1) := by decide +kernel
theorem dX3_partLike_29 : decode cX3_partLike 29 = .ok (.iload 5, 2) := by decide +kernel
theorem dX3_partLike_31 : decode cX3_partLike 31 = .ok (.iload 6, 2) := by decide +kernel
theorem dX3_partLike_33 : decode cX3_partLike 33 = .ok (.iload 4, 2) := by decide +kernel
theorem dX3_partLike_35 : decode cX3_partLike 35 = .ok (.invokestatic 146, 3) := by decide +kernel
theorem dX3_partLike_38 : decode cX3_partLike 38 = .ok (.istore 7, 2) := by decide +kernel
theorem dX3_partLike_40 : decode cX3_partLike 40 = .ok (.iconst 0, 1) := by decide +kernel
theorem dX3_partLike_41 : decode cX3_partLike 41 = .ok (.istore 8, 2) := by decide +kernel
theorem dX3_partLike_43 : decode cX3_partLike 43 = .ok (.iconst 0, 1) := by decide +kernel
theorem dX3_partLike_44 : decode cX3_partLike 44 = .ok (.istore 9, 2) := by decide +kernel
theorem dX3_partLike_46 : decode cX3_partLike 46 = .ok (.iload 9, 2) := by decide +kernel
theorem dX3_partLike_48 : decode cX3_partLike 48 = .ok (.bipush 6, 2) := by decide +kernel
theorem dX3_partLike_50 : decode cX3_partLike 50 = .ok (.if_icmp .ge 37, 3) := by decide +kernel
theorem dX3_partLike_53 : decode cX3_partLike 53 = .ok (.iload_n 3, 1) := by decide +kernel
theorem dX3_partLike_54 : decode cX3_partLike 54 = .ok (.iload 9, 2) := by decide +kernel
theorem dX3_partLike_56 : decode cX3_partLike 56 = .ok (.ishr, 1) := by decide +kernel
theorem dX3_partLike_57 : decode cX3_partLike 57 = .ok (.iconst 1, 1) := by decide +kernel
theorem dX3_partLike_58 : decode cX3_partLike 58 = .ok (.iand, 1) := by decide +kernel
theorem dX3_partLike_59 : decode cX3_partLike 59 = .ok (.ifCond .eq 22, 3) := by decide +kernel
theorem dX3_partLike_62 : decode cX3_partLike 62 = .ok (.iload 9, 2) := by decide +kernel
theorem dX3_partLike_64 : decode cX3_partLike 64 = .ok (.iload 5, 2) := by decide +kernel
theorem dX3_partLike_66 : decode cX3_partLike 66 = .ok (.iload 6, 2) := by decide +kernel
theorem dX3_partLike_68 : decode cX3_partLike 68 = .ok (.iload 4, 2) := by decide +kernel
theorem dX3_partLike_70 : decode cX3_partLike 70 = .ok (.invokestatic 146, 3) := by decide +kernel
theorem dX3_partLike_73 : decode cX3_partLike 73 = .ok (.iload 7, 2) := by decide +kernel
theorem dX3_partLike_75 : decode cX3_partLike 75 = .ok (.if_icmp .ne 6, 3) := by decide +kernel
theorem dX3_partLike_78 : decode cX3_partLike 78 = .ok (.iinc 8 1, 3) := by decide +kernel
theorem dX3_partLike_81 : decode cX3_partLike 81 = .ok (.iinc 9 1, 3) := by decide +kernel
theorem dX3_partLike_84 : decode cX3_partLike 84 = .ok (.goto (-38), 3) := by decide +kernel
theorem dX3_partLike_87 : decode cX3_partLike 87 = .ok (.iload 8, 2) := by decide +kernel
theorem dX3_partLike_89 : decode cX3_partLike 89 = .ok (.ireturn, 1) := by decide +kernel
theorem dX3_duelWay_0 : decode cX3_duelWay 0 = .ok (.iconst 4, 1) := by decide +kernel
theorem dX3_duelWay_1 : decode cX3_duelWay 1 = .ok (.iload_n 0, 1) := by decide +kernel
theorem dX3_duelWay_2 : decode cX3_duelWay 2 = .ok (.imul, 1) := by decide +kernel
theorem dX3_duelWay_3 : decode cX3_duelWay 3 = .ok (.iload_n 1, 1) := by decide +kernel
theorem dX3_duelWay_4 : decode cX3_duelWay 4 = .ok (.iadd, 1) := by decide +kernel
theorem dX3_duelWay_5 : decode cX3_duelWay 5 = .ok (.ireturn, 1) := by decide +kernel
theorem dX3_duelEnd_0 : decode cX3_duelEnd 0 = .ok (.aload_n 0, 1) := by decide +kernel
theorem dX3_duelEnd_1 : decode cX3_duelEnd 1 = .ok (.getfield 31, 3) := by decide +kernel
theorem dX3_duelEnd_4 : decode cX3_duelEnd 4 = .ok (.aload_n 0, 1) := by decide +kernel
theorem dX3_duelEnd_5 : decode cX3_duelEnd 5 = .ok (.getfield 24, 3) := by decide +kernel
theorem dX3_duelEnd_8 : decode cX3_duelEnd 8 = .ok (.getfield 113, 3) := by decide +kernel
theorem dX3_duelEnd_11 : decode cX3_duelEnd 11 = .ok (.invokevirtual 203, 3) := by decide +kernel
theorem dX3_duelEnd_14 : decode cX3_duelEnd 14 = .ok (.aload_n 0, 1) := by decide +kernel
theorem dX3_duelEnd_15 : decode cX3_duelEnd 15 = .ok (.getfield 31, 3) := by decide +kernel
theorem dX3_duelEnd_18 : decode cX3_duelEnd 18 = .ok (.getfield 170, 3) := by decide +kernel
theorem dX3_duelEnd_21 : decode cX3_duelEnd 21 = .ok (.iload_n 1, 1) := by decide +kernel
theorem dX3_duelEnd_22 : decode cX3_duelEnd 22 = .ok (.iload_n 3, 1) := by decide +kernel
theorem dX3_duelEnd_23 : decode cX3_duelEnd 23 = .ok (.iconst 4, 1) := by decide +kernel
theorem dX3_duelEnd_24 : decode cX3_duelEnd 24 = .ok (.idiv, 1) := by decide +kernel
theorem dX3_duelEnd_25 : decode cX3_duelEnd 25 = .ok (.iastore, 1) := by decide +kernel
theorem dX3_duelEnd_26 : decode cX3_duelEnd 26 = .ok (.aload_n 0, 1) := by decide +kernel
theorem dX3_duelEnd_27 : decode cX3_duelEnd 27 = .ok (.getfield 31, 3) := by decide +kernel
theorem dX3_duelEnd_30 : decode cX3_duelEnd 30 = .ok (.getfield 170, 3) := by decide +kernel
theorem dX3_duelEnd_33 : decode cX3_duelEnd 33 = .ok (.iload_n 2, 1) := by decide +kernel
theorem dX3_duelEnd_34 : decode cX3_duelEnd 34 = .ok (.iload_n 3, 1) := by decide +kernel
theorem dX3_duelEnd_35 : decode cX3_duelEnd 35 = .ok (.iconst 4, 1) := by decide +kernel
theorem dX3_duelEnd_36 : decode cX3_duelEnd 36 = .ok (.irem, 1) := by decide +kernel
theorem dX3_duelEnd_37 : decode cX3_duelEnd 37 = .ok (.iastore, 1) := by decide +kernel
theorem dX3_duelEnd_38 : decode cX3_duelEnd 38 = .ok (.aload_n 0, 1) := by decide +kernel
theorem dX3_duelEnd_39 : decode cX3_duelEnd 39 = .ok (.getfield 31, 3) := by decide +kernel
theorem dX3_duelEnd_42 : decode cX3_duelEnd 42 = .ok (.iconst 4, 1) := by decide +kernel
theorem dX3_duelEnd_43 : decode cX3_duelEnd 43 = .ok (.invokevirtual 320, 3) := by decide +kernel
theorem dX3_duelEnd_46 : decode cX3_duelEnd 46 = .ok (.pop, 1) := by decide +kernel
theorem dX3_duelEnd_47 : decode cX3_duelEnd 47 = .ok (.aload_n 0, 1) := by decide +kernel
theorem dX3_duelEnd_48 : decode cX3_duelEnd 48 = .ok (.getfield 31, 3) := by decide +kernel
theorem dX3_duelEnd_51 : decode cX3_duelEnd 51 = .ok (.getfield 176, 3) := by decide +kernel
theorem dX3_duelEnd_54 : decode cX3_duelEnd 54 = .ok (.iload_n 1, 1) := by decide +kernel
theorem dX3_duelEnd_55 : decode cX3_duelEnd 55 = .ok (.iaload, 1) := by decide +kernel
theorem dX3_duelEnd_56 : decode cX3_duelEnd 56 = .ok (.aload_n 0, 1) := by decide +kernel
theorem dX3_duelEnd_57 : decode cX3_duelEnd 57 = .ok (.getfield 31, 3) := by decide +kernel
theorem dX3_duelEnd_60 : decode cX3_duelEnd 60 = .ok (.getfield 176, 3) := by decide +kernel
theorem dX3_duelEnd_63 : decode cX3_duelEnd 63 = .ok (.iload_n 2, 1) := by decide +kernel
theorem dX3_duelEnd_64 : decode cX3_duelEnd 64 = .ok (.iaload, 1) := by decide +kernel
theorem dX3_duelEnd_65 : decode cX3_duelEnd 65 = .ok (.isub, 1) := by decide +kernel
theorem dX3_duelEnd_66 : decode cX3_duelEnd 66 = .ok (.ireturn, 1) := by decide +kernel
theorem dX3_bestForFirst_0 : decode cX3_bestForFirst 0 = .ok (.iload_n 1, 1) := by decide +kernel
theorem dX3_bestForFirst_1 : decode cX3_bestForFirst 1 = .ok (.iconst 4, 1) := by decide +kernel
theorem dX3_bestForFirst_2 : decode cX3_bestForFirst 2 = .ok (.idiv, 1) := by decide +kernel
theorem dX3_bestForFirst_3 : decode cX3_bestForFirst 3 = .ok (.istore_n 2, 1) := by decide +kernel
theorem dX3_bestForFirst_4 : decode cX3_bestForFirst 4 = .ok (.iload_n 1, 1) := by decide +kernel
theorem dX3_bestForFirst_5 : decode cX3_bestForFirst 5 = .ok (.iconst 4, 1) := by decide +kernel
theorem dX3_bestForFirst_6 : decode cX3_bestForFirst 6 = .ok (.irem, 1) := by decide +kernel
theorem dX3_bestForFirst_7 : decode cX3_bestForFirst 7 = .ok (.istore_n 3, 1) := by decide +kernel
theorem dX3_bestForFirst_8 : decode cX3_bestForFirst 8 = .ok (.iload_n 2, 1) := by decide +kernel
theorem dX3_bestForFirst_9 : decode cX3_bestForFirst 9 = .ok (.iconst 1, 1) := by decide +kernel
theorem dX3_bestForFirst_10 : decode cX3_bestForFirst 10 = .ok (.iadd, 1) := by decide +kernel
theorem dX3_bestForFirst_11 : decode cX3_bestForFirst 11 = .ok (.iconst 3, 1) := by decide +kernel
theorem dX3_bestForFirst_12 : decode cX3_bestForFirst 12 = .ok (.invokestatic 332, 3) := by decide +kernel
theorem dX3_bestForFirst_15 : decode cX3_bestForFirst 15 = .ok (.istore 4, 2) := by decide +kernel
theorem dX3_bestForFirst_17 : decode cX3_bestForFirst 17 = .ok (.aload_n 0, 1) := by decide +kernel
theorem dX3_bestForFirst_18 : decode cX3_bestForFirst 18 = .ok (.getfield 39, 3) := by decide +kernel
theorem dX3_bestForFirst_21 : decode cX3_bestForFirst 21 = .ok (.iload_n 1, 1) := by decide +kernel
theorem dX3_bestForFirst_22 : decode cX3_bestForFirst 22 = .ok (.iaload, 1) := by decide +kernel
theorem dX3_bestForFirst_23 : decode cX3_bestForFirst 23 = .ok (.aload_n 0, 1) := by decide +kernel
theorem dX3_bestForFirst_24 : decode cX3_bestForFirst 24 = .ok (.getfield 39, 3) := by decide +kernel
theorem dX3_bestForFirst_27 : decode cX3_bestForFirst 27 = .ok (.iconst 0, 1) := by decide +kernel
theorem dX3_bestForFirst_28 : decode cX3_bestForFirst 28 = .ok (.iload_n 3, 1) := by decide +kernel
theorem dX3_bestForFirst_29 : decode cX3_bestForFirst 29 = .ok (.invokestatic 253, 3) := by decide +kernel
theorem dX3_bestForFirst_32 : decode cX3_bestForFirst 32 = .ok (.iaload, 1) := by decide +kernel
theorem dX3_bestForFirst_33 : decode cX3_bestForFirst 33 = .ok (.invokestatic 329, 3) := by decide +kernel
theorem dX3_bestForFirst_36 : decode cX3_bestForFirst 36 = .ok (.istore 5, 2) := by decide +kernel
theorem dX3_bestForFirst_38 : decode cX3_bestForFirst 38 = .ok (.iload 5, 2) := by decide +kernel
theorem dX3_bestForFirst_40 : decode cX3_bestForFirst 40 = .ok (.aload_n 0, 1) := by decide +kernel
theorem dX3_bestForFirst_41 : decode cX3_bestForFirst 41 = .ok (.getfield 39, 3) := by decide +kernel
theorem dX3_bestForFirst_44 : decode cX3_bestForFirst 44 = .ok (.iload 4, 2) := by decide +kernel
theorem dX3_bestForFirst_46 : decode cX3_bestForFirst 46 = .ok (.iload_n 3, 1) := by decide +kernel
theorem dX3_bestForFirst_47 : decode cX3_bestForFirst 47 = .ok (.invokestatic 253, 3) := by decide +kernel
theorem dX3_bestForFirst_50 : decode cX3_bestForFirst 50 = .ok (.iaload, 1) := by decide +kernel
theorem dX3_bestForFirst_51 : decode cX3_bestForFirst 51 = .ok (.invokestatic 329, 3) := by decide +kernel
theorem dX3_bestForFirst_54 : decode cX3_bestForFirst 54 = .ok (.ireturn, 1) := by decide +kernel
theorem dX3_bestForSecond_0 : decode cX3_bestForSecond 0 = .ok (.iload_n 1, 1) := by decide +kernel
theorem dX3_bestForSecond_1 : decode cX3_bestForSecond 1 = .ok (.iconst 4, 1) := by decide +kernel
theorem dX3_bestForSecond_2 : decode cX3_bestForSecond 2 = .ok (.idiv, 1) := by decide +kernel
theorem dX3_bestForSecond_3 : decode cX3_bestForSecond 3 = .ok (.istore_n 2, 1) := by decide +kernel
theorem dX3_bestForSecond_4 : decode cX3_bestForSecond 4 = .ok (.iload_n 1, 1) := by decide +kernel
theorem dX3_bestForSecond_5 : decode cX3_bestForSecond 5 = .ok (.iconst 4, 1) := by decide +kernel
theorem dX3_bestForSecond_6 : decode cX3_bestForSecond 6 = .ok (.irem, 1) := by decide +kernel
theorem dX3_bestForSecond_7 : decode cX3_bestForSecond 7 = .ok (.istore_n 3, 1) := by decide +kernel
theorem dX3_bestForSecond_8 : decode cX3_bestForSecond 8 = .ok (.iload_n 3, 1) := by decide +kernel
theorem dX3_bestForSecond_9 : decode cX3_bestForSecond 9 = .ok (.iconst 1, 1) := by decide +kernel
theorem dX3_bestForSecond_10 : decode cX3_bestForSecond 10 = .ok (.iadd, 1) := by decide +kernel
theorem dX3_bestForSecond_11 : decode cX3_bestForSecond 11 = .ok (.iconst 3, 1) := by decide +kernel
theorem dX3_bestForSecond_12 : decode cX3_bestForSecond 12 = .ok (.invokestatic 332, 3) := by decide +kernel
theorem dX3_bestForSecond_15 : decode cX3_bestForSecond 15 = .ok (.istore 4, 2) := by decide +kernel
theorem dX3_bestForSecond_17 : decode cX3_bestForSecond 17 = .ok (.aload_n 0, 1) := by decide +kernel
theorem dX3_bestForSecond_18 : decode cX3_bestForSecond 18 = .ok (.getfield 39, 3) := by decide +kernel
theorem dX3_bestForSecond_21 : decode cX3_bestForSecond 21 = .ok (.iload_n 1, 1) := by decide +kernel
theorem dX3_bestForSecond_22 : decode cX3_bestForSecond 22 = .ok (.iaload, 1) := by decide +kernel
theorem dX3_bestForSecond_23 : decode cX3_bestForSecond 23 = .ok (.aload_n 0, 1) := by decide +kernel
theorem dX3_bestForSecond_24 : decode cX3_bestForSecond 24 = .ok (.getfield 39, 3) := by decide +kernel
theorem dX3_bestForSecond_27 : decode cX3_bestForSecond 27 = .ok (.iload_n 2, 1) := by decide +kernel
theorem dX3_bestForSecond_28 : decode cX3_bestForSecond 28 = .ok (.iconst 0, 1) := by decide +kernel
theorem dX3_bestForSecond_29 : decode cX3_bestForSecond 29 = .ok (.invokestatic 253, 3) := by decide +kernel
theorem dX3_bestForSecond_32 : decode cX3_bestForSecond 32 = .ok (.iaload, 1) := by decide +kernel
theorem dX3_bestForSecond_33 : decode cX3_bestForSecond 33 = .ok (.invokestatic 332, 3) := by decide +kernel
theorem dX3_bestForSecond_36 : decode cX3_bestForSecond 36 = .ok (.istore 5, 2) := by decide +kernel
theorem dX3_bestForSecond_38 : decode cX3_bestForSecond 38 = .ok (.iload 5, 2) := by decide +kernel
theorem dX3_bestForSecond_40 : decode cX3_bestForSecond 40 = .ok (.aload_n 0, 1) := by decide +kernel
theorem dX3_bestForSecond_41 : decode cX3_bestForSecond 41 = .ok (.getfield 39, 3) := by decide +kernel
theorem dX3_bestForSecond_44 : decode cX3_bestForSecond 44 = .ok (.iload_n 2, 1) := by decide +kernel
theorem dX3_bestForSecond_45 : decode cX3_bestForSecond 45 = .ok (.iload 4, 2) := by decide +kernel
theorem dX3_bestForSecond_47 : decode cX3_bestForSecond 47 = .ok (.invokestatic 253, 3) := by decide +kernel
theorem dX3_bestForSecond_50 : decode cX3_bestForSecond 50 = .ok (.iaload, 1) := by decide +kernel
theorem dX3_bestForSecond_51 : decode cX3_bestForSecond 51 = .ok (.invokestatic 332, 3) := by decide +kernel
theorem dX3_bestForSecond_54 : decode cX3_bestForSecond 54 = .ok (.ireturn, 1) := by decide +kernel
theorem dX3_chanceOf_0 : decode cX3_chanceOf 0 = .ok (.lconst 1, 1) := by decide +kernel
theorem dX3_chanceOf_1 : decode cX3_chanceOf 1 = .ok (.lstore_n 3, 1) := by decide +kernel
theorem dX3_chanceOf_2 : decode cX3_chanceOf 2 = .ok (.iconst 0, 1) := by decide +kernel
theorem dX3_chanceOf_3 : decode cX3_chanceOf 3 = .ok (.istore 5, 2) := by decide +kernel
theorem dX3_chanceOf_5 : decode cX3_chanceOf 5 = .ok (.iload 5, 2) := by decide +kernel
theorem dX3_chanceOf_7 : decode cX3_chanceOf 7 = .ok (.aload_n 0, 1) := by decide +kernel
theorem dX3_chanceOf_8 : decode cX3_chanceOf 8 = .ok (.getfield 24, 3) := by decide +kernel
theorem dX3_chanceOf_11 : decode cX3_chanceOf 11 = .ok (.getfield 113, 3) := by decide +kernel
theorem dX3_chanceOf_14 : decode cX3_chanceOf 14 = .ok (.getfield 116, 3) := by decide +kernel
theorem dX3_chanceOf_17 : decode cX3_chanceOf 17 = .ok (.if_icmp .ge 31, 3) := by decide +kernel
theorem dX3_chanceOf_20 : decode cX3_chanceOf 20 = .ok (.lload_n 3, 1) := by decide +kernel
theorem dX3_chanceOf_21 : decode cX3_chanceOf 21 = .ok (.iload_n 1, 1) := by decide +kernel
theorem dX3_chanceOf_22 : decode cX3_chanceOf 22 = .ok (.iload 5, 2) := by decide +kernel
theorem dX3_chanceOf_24 : decode cX3_chanceOf 24 = .ok (.ishr, 1) := by decide +kernel
theorem dX3_chanceOf_25 : decode cX3_chanceOf 25 = .ok (.iconst 1, 1) := by decide +kernel
theorem dX3_chanceOf_26 : decode cX3_chanceOf 26 = .ok (.iand, 1) := by decide +kernel
theorem dX3_chanceOf_27 : decode cX3_chanceOf 27 = .ok (.ifCond .eq 8, 3) := by decide +kernel
theorem dX3_chanceOf_30 : decode cX3_chanceOf 30 = .ok (.iload_n 2, 1) := by decide +kernel
theorem dX3_chanceOf_31 : decode cX3_chanceOf 31 = .ok (.i2l, 1) := by decide +kernel
theorem dX3_chanceOf_32 : decode cX3_chanceOf 32 = .ok (.goto 8, 3) := by decide +kernel
theorem dX3_chanceOf_35 : decode cX3_chanceOf 35 = .ok (.bipush 12, 2) := by decide +kernel
theorem dX3_chanceOf_37 : decode cX3_chanceOf 37 = .ok (.iload_n 2, 1) := by decide +kernel
theorem dX3_chanceOf_38 : decode cX3_chanceOf 38 = .ok (.isub, 1) := by decide +kernel
theorem dX3_chanceOf_39 : decode cX3_chanceOf 39 = .ok (.i2l, 1) := by decide +kernel
theorem dX3_chanceOf_40 : decode cX3_chanceOf 40 = .ok (.lmul, 1) := by decide +kernel
theorem dX3_chanceOf_41 : decode cX3_chanceOf 41 = .ok (.lstore_n 3, 1) := by decide +kernel
theorem dX3_chanceOf_42 : decode cX3_chanceOf 42 = .ok (.iinc 5 1, 3) := by decide +kernel
theorem dX3_chanceOf_45 : decode cX3_chanceOf 45 = .ok (.goto (-40), 3) := by decide +kernel
theorem dX3_chanceOf_48 : decode cX3_chanceOf 48 = .ok (.lload_n 3, 1) := by decide +kernel
theorem dX3_chanceOf_49 : decode cX3_chanceOf 49 = .ok (.lreturn, 1) := by decide +kernel
theorem dX3_givenUnless_0 : decode cX3_givenUnless 0 = .ok (.iconst 0, 1) := by decide +kernel
theorem dX3_givenUnless_1 : decode cX3_givenUnless 1 = .ok (.istore_n 2, 1) := by decide +kernel
theorem dX3_givenUnless_2 : decode cX3_givenUnless 2 = .ok (.iconst 0, 1) := by decide +kernel
theorem dX3_givenUnless_3 : decode cX3_givenUnless 3 = .ok (.istore_n 3, 1) := by decide +kernel
theorem dX3_givenUnless_4 : decode cX3_givenUnless 4 = .ok (.iload_n 3, 1) := by decide +kernel
theorem dX3_givenUnless_5 : decode cX3_givenUnless 5 = .ok (.aload_n 0, 1) := by decide +kernel
theorem dX3_givenUnless_6 : decode cX3_givenUnless 6 = .ok (.getfield 24, 3) := by decide +kernel
theorem dX3_givenUnless_9 : decode cX3_givenUnless 9 = .ok (.getfield 113, 3) := by decide +kernel
theorem dX3_givenUnless_12 : decode cX3_givenUnless 12 = .ok (.getfield 116, 3) := by decide +kernel
theorem dX3_givenUnless_15 : decode cX3_givenUnless 15 = .ok (.if_icmp .ge 24, 3) := by decide +kernel
theorem dX3_givenUnless_18 : decode cX3_givenUnless 18 = .ok (.iload_n 2, 1) := by decide +kernel
theorem dX3_givenUnless_19 : decode cX3_givenUnless 19 = .ok (.aload_n 0, 1) := by decide +kernel
theorem dX3_givenUnless_20 : decode cX3_givenUnless 20 = .ok (.getfield 24, 3) := by decide +kernel
theorem dX3_givenUnless_23 : decode cX3_givenUnless 23 = .ok (.getfield 113, 3) := by decide +kernel
theorem dX3_givenUnless_26 : decode cX3_givenUnless 26 = .ok (.iload_n 1, 1) := by decide +kernel
theorem dX3_givenUnless_27 : decode cX3_givenUnless 27 = .ok (.iload_n 3, 1) := by decide +kernel
theorem dX3_givenUnless_28 : decode cX3_givenUnless 28 = .ok (.invokevirtual 256, 3) := by decide +kernel
theorem dX3_givenUnless_31 : decode cX3_givenUnless 31 = .ok (.iadd, 1) := by decide +kernel
theorem dX3_givenUnless_32 : decode cX3_givenUnless 32 = .ok (.istore_n 2, 1) := by decide +kernel
theorem dX3_givenUnless_33 : decode cX3_givenUnless 33 = .ok (.iinc 3 1, 3) := by decide +kernel
theorem dX3_givenUnless_36 : decode cX3_givenUnless 36 = .ok (.goto (-32), 3) := by decide +kernel
theorem dX3_givenUnless_39 : decode cX3_givenUnless 39 = .ok (.iload_n 2, 1) := by decide +kernel
theorem dX3_givenUnless_40 : decode cX3_givenUnless 40 = .ok (.ireturn, 1) := by decide +kernel
theorem dX3_deedByLot_0 : decode cX3_deedByLot 0 = .ok (.aload_n 0, 1) := by decide +kernel
theorem dX3_deedByLot_1 : decode cX3_deedByLot 1 = .ok (.getfield 24, 3) := by decide +kernel
theorem dX3_deedByLot_4 : decode cX3_deedByLot 4 = .ok (.getfield 113, 3) := by decide +kernel
theorem dX3_deedByLot_7 : decode cX3_deedByLot 7 = .ok (.getfield 116, 3) := by decide +kernel
theorem dX3_deedByLot_10 : decode cX3_deedByLot 10 = .ok (.istore_n 2, 1) := by decide +kernel
theorem dX3_deedByLot_11 : decode cX3_deedByLot 11 = .ok (.iload_n 2, 1) := by decide +kernel
theorem dX3_deedByLot_12 : decode cX3_deedByLot 12 = .ok (.ifCond .gt 11, 3) := by decide +kernel
theorem dX3_deedByLot_15 : decode cX3_deedByLot 15 = .ok (.iconst 4, 1) := by decide +kernel
theorem dX3_deedByLot_16 : decode cX3_deedByLot 16 = .ok (.iconst 0, 1) := by decide +kernel
theorem dX3_deedByLot_17 : decode cX3_deedByLot 17 = .ok (.iconst 0, 1) := by decide +kernel
theorem dX3_deedByLot_18 : decode cX3_deedByLot 18 = .ok (.iconst 0, 1) := by decide +kernel
theorem dX3_deedByLot_19 : decode cX3_deedByLot 19 = .ok (.invokestatic 160, 3) := by decide +kernel
theorem dX3_deedByLot_22 : decode cX3_deedByLot 22 = .ok (.ireturn, 1) := by decide +kernel
theorem dX3_deedByLot_23 : decode cX3_deedByLot 23 = .ok (.iload_n 1, 1) := by decide +kernel
theorem dX3_deedByLot_24 : decode cX3_deedByLot 24 = .ok (.bipush 8, 2) := by decide +kernel
theorem dX3_deedByLot_26 : decode cX3_deedByLot 26 = .ok (.idiv, 1) := by decide +kernel
theorem dX3_deedByLot_27 : decode cX3_deedByLot 27 = .ok (.iload_n 2, 1) := by decide +kernel
theorem dX3_deedByLot_28 : decode cX3_deedByLot 28 = .ok (.irem, 1) := by decide +kernel
theorem dX3_deedByLot_29 : decode cX3_deedByLot 29 = .ok (.istore_n 3, 1) := by decide +kernel
theorem dX3_deedByLot_30 : decode cX3_deedByLot 30 = .ok (.iload_n 1, 1) := by decide +kernel
theorem dX3_deedByLot_31 : decode cX3_deedByLot 31 = .ok (.iconst 4, 1) := by decide +kernel
theorem dX3_deedByLot_32 : decode cX3_deedByLot 32 = .ok (.irem, 1) := by decide +kernel
theorem dX3_deedByLot_33 : decode cX3_deedByLot 33 = .ok (.lookupswitch 63 #[(0, 27), (1, 55)], 27) := by decide +kernel
theorem dX3_deedByLot_60 : decode cX3_deedByLot 60 = .ok (.aload_n 0, 1) := by decide +kernel
theorem dX3_deedByLot_61 : decode cX3_deedByLot 61 = .ok (.getfield 24, 3) := by decide +kernel
theorem dX3_deedByLot_64 : decode cX3_deedByLot 64 = .ok (.getfield 113, 3) := by decide +kernel
theorem dX3_deedByLot_67 : decode cX3_deedByLot 67 = .ok (.getfield 170, 3) := by decide +kernel
theorem dX3_deedByLot_70 : decode cX3_deedByLot 70 = .ok (.iload_n 3, 1) := by decide +kernel
theorem dX3_deedByLot_71 : decode cX3_deedByLot 71 = .ok (.iaload, 1) := by decide +kernel
theorem dX3_deedByLot_72 : decode cX3_deedByLot 72 = .ok (.iconst 3, 1) := by decide +kernel
theorem dX3_deedByLot_73 : decode cX3_deedByLot 73 = .ok (.if_icmp .ge 7, 3) := by decide +kernel
theorem dX3_deedByLot_76 : decode cX3_deedByLot 76 = .ok (.iconst 1, 1) := by decide +kernel
theorem dX3_deedByLot_77 : decode cX3_deedByLot 77 = .ok (.goto 4, 3) := by decide +kernel
theorem dX3_deedByLot_80 : decode cX3_deedByLot 80 = .ok (.iconst 2, 1) := by decide +kernel
theorem dX3_deedByLot_81 : decode cX3_deedByLot 81 = .ok (.iload_n 3, 1) := by decide +kernel
theorem dX3_deedByLot_82 : decode cX3_deedByLot 82 = .ok (.iconst 0, 1) := by decide +kernel
theorem dX3_deedByLot_83 : decode cX3_deedByLot 83 = .ok (.iconst 0, 1) := by decide +kernel
theorem dX3_deedByLot_84 : decode cX3_deedByLot 84 = .ok (.invokestatic 160, 3) := by decide +kernel
theorem dX3_deedByLot_87 : decode cX3_deedByLot 87 = .ok (.ireturn, 1) := by decide +kernel
theorem dX3_deedByLot_88 : decode cX3_deedByLot 88 = .ok (.iconst 2, 1) := by decide +kernel
theorem dX3_deedByLot_89 : decode cX3_deedByLot 89 = .ok (.iload_n 3, 1) := by decide +kernel
theorem dX3_deedByLot_90 : decode cX3_deedByLot 90 = .ok (.iconst 0, 1) := by decide +kernel
theorem dX3_deedByLot_91 : decode cX3_deedByLot 91 = .ok (.iconst 0, 1) := by decide +kernel
theorem dX3_deedByLot_92 : decode cX3_deedByLot 92 = .ok (.invokestatic 160, 3) := by decide +kernel
theorem dX3_deedByLot_95 : decode cX3_deedByLot 95 = .ok (.ireturn, 1) := by decide +kernel
theorem dX3_deedByLot_96 : decode cX3_deedByLot 96 = .ok (.aload_n 0, 1) := by decide +kernel
theorem dX3_deedByLot_97 : decode cX3_deedByLot 97 = .ok (.getfield 24, 3) := by decide +kernel
theorem dX3_deedByLot_100 : decode cX3_deedByLot 100 = .ok (.getfield 154, 3) := by decide +kernel
theorem dX3_deedByLot_103 : decode cX3_deedByLot 103 = .ok (.bipush 99, 2) := by decide +kernel
theorem dX3_deedByLot_105 : decode cX3_deedByLot 105 = .ok (.if_icmp .ge 7, 3) := by decide +kernel
theorem dX3_deedByLot_108 : decode cX3_deedByLot 108 = .ok (.iconst 0, 1) := by decide +kernel
theorem dX3_deedByLot_109 : decode cX3_deedByLot 109 = .ok (.goto 4, 3) := by decide +kernel
theorem dX3_deedByLot_112 : decode cX3_deedByLot 112 = .ok (.iconst 4, 1) := by decide +kernel
theorem dX3_deedByLot_113 : decode cX3_deedByLot 113 = .ok (.iconst 0, 1) := by decide +kernel
theorem dX3_deedByLot_114 : decode cX3_deedByLot 114 = .ok (.iconst 0, 1) := by decide +kernel
theorem dX3_deedByLot_115 : decode cX3_deedByLot 115 = .ok (.iconst 0, 1) := by decide +kernel
theorem dX3_deedByLot_116 : decode cX3_deedByLot 116 = .ok (.invokestatic 160, 3) := by decide +kernel
theorem dX3_deedByLot_119 : decode cX3_deedByLot 119 = .ok (.ireturn, 1) := by decide +kernel
