theorem dX9_far_4 : decode cX9_far 4 = .ok (.ifCond .eq 10, 3) := by decide +kernel
theorem dX9_far_7 : decode cX9_far 7 = .ok (.iload_n 2, 1) := by decide +kernel
theorem dX9_far_8 : decode cX9_far 8 = .ok (.invokestatic 54, 3) := by decide +kernel
theorem dX9_far_11 : decode cX9_far 11 = .ok (.ifCond .ne 9, 3) := by decide +kernel
theorem dX9_far_14 : decode cX9_far 14 = .ok (.aload_n 0, 1) := by decide +kernel
theorem dX9_far_15 : decode cX9_far 15 = .ok (.iconst 0, 1) := by decide +kernel
theorem dX9_far_16 : decode cX9_far 16 = .ok (.invokevirtual 58, 3) := by decide +kernel
theorem dX9_far_19 : decode cX9_far 19 = .ok (.ireturn, 1) := by decide +kernel
theorem dX9_far_20 : decode cX9_far 20 = .ok (.aload_n 0, 1) := by decide +kernel
theorem dX9_far_21 : decode cX9_far 21 = .ok (.getfield 10, 3) := by decide +kernel
theorem dX9_far_24 : decode cX9_far 24 = .ok (.getfield 62, 3) := by decide +kernel
theorem dX9_far_27 : decode cX9_far 27 = .ok (.iload_n 1, 1) := by decide +kernel
theorem dX9_far_28 : decode cX9_far 28 = .ok (.iload_n 2, 1) := by decide +kernel
theorem dX9_far_29 : decode cX9_far 29 = .ok (.invokevirtual 79, 3) := by decide +kernel
theorem dX9_far_32 : decode cX9_far 32 = .ok (.istore_n 3, 1) := by decide +kernel
theorem dX9_far_33 : decode cX9_far 33 = .ok (.iload_n 3, 1) := by decide +kernel
theorem dX9_far_34 : decode cX9_far 34 = .ok (.iconst (-1), 1) := by decide +kernel
theorem dX9_far_35 : decode cX9_far 35 = .ok (.if_icmp .ne 11, 3) := by decide +kernel
theorem dX9_far_38 : decode cX9_far 38 = .ok (.aload_n 0, 1) := by decide +kernel
theorem dX9_far_39 : decode cX9_far 39 = .ok (.iconst 3, 1) := by decide +kernel
theorem dX9_far_40 : decode cX9_far 40 = .ok (.invokevirtual 58, 3) := by decide +kernel
theorem dX9_far_43 : decode cX9_far 43 = .ok (.goto 4, 3) := by decide +kernel
theorem dX9_far_46 : decode cX9_far 46 = .ok (.iload_n 3, 1) := by decide +kernel
theorem dX9_far_47 : decode cX9_far 47 = .ok (.ireturn, 1) := by decide +kernel
theorem dX9_seen_0 : decode cX9_seen 0 = .ok (.iload_n 1, 1) := by decide +kernel
theorem dX9_seen_1 : decode cX9_seen 1 = .ok (.invokestatic 83, 3) := by decide +kernel
theorem dX9_seen_4 : decode cX9_seen 4 = .ok (.ifCond .eq 17, 3) := by decide +kernel
theorem dX9_seen_7 : decode cX9_seen 7 = .ok (.iload_n 2, 1) := by decide +kernel
theorem dX9_seen_8 : decode cX9_seen 8 = .ok (.invokestatic 54, 3) := by decide +kernel
theorem dX9_seen_11 : decode cX9_seen 11 = .ok (.ifCond .eq 10, 3) := by decide +kernel
theorem dX9_seen_14 : decode cX9_seen 14 = .ok (.iload_n 3, 1) := by decide +kernel
theorem dX9_seen_15 : decode cX9_seen 15 = .ok (.invokestatic 86, 3) := by decide +kernel
theorem dX9_seen_18 : decode cX9_seen 18 = .ok (.ifCond .ne 9, 3) := by decide +kernel
theorem dX9_seen_21 : decode cX9_seen 21 = .ok (.aload_n 0, 1) := by decide +kernel
theorem dX9_seen_22 : decode cX9_seen 22 = .ok (.iconst 0, 1) := by decide +kernel
theorem dX9_seen_23 : decode cX9_seen 23 = .ok (.invokevirtual 58, 3) := by decide +kernel
theorem dX9_seen_26 : decode cX9_seen 26 = .ok (.ireturn, 1) := by decide +kernel
theorem dX9_seen_27 : decode cX9_seen 27 = .ok (.aload_n 0, 1) := by decide +kernel
theorem dX9_seen_28 : decode cX9_seen 28 = .ok (.getfield 10, 3) := by decide +kernel
theorem dX9_seen_31 : decode cX9_seen 31 = .ok (.getfield 89, 3) := by decide +kernel
theorem dX9_seen_34 : decode cX9_seen 34 = .ok (.invokevirtual 93, 3) := by decide +kernel
theorem dX9_seen_37 : decode cX9_seen 37 = .ok (.ifCond .ne 9, 3) := by decide +kernel
theorem dX9_seen_40 : decode cX9_seen 40 = .ok (.aload_n 0, 1) := by decide +kernel
theorem dX9_seen_41 : decode cX9_seen 41 = .ok (.iconst 1, 1) := by decide +kernel
theorem dX9_seen_42 : decode cX9_seen 42 = .ok (.invokevirtual 58, 3) := by decide +kernel
theorem dX9_seen_45 : decode cX9_seen 45 = .ok (.ireturn, 1) := by decide +kernel
theorem dX9_seen_46 : decode cX9_seen 46 = .ok (.aload_n 0, 1) := by decide +kernel
theorem dX9_seen_47 : decode cX9_seen 47 = .ok (.getfield 10, 3) := by decide +kernel
theorem dX9_seen_50 : decode cX9_seen 50 = .ok (.getfield 89, 3) := by decide +kernel
theorem dX9_seen_53 : decode cX9_seen 53 = .ok (.iload_n 1, 1) := by decide +kernel
theorem dX9_seen_54 : decode cX9_seen 54 = .ok (.iload_n 2, 1) := by decide +kernel
theorem dX9_seen_55 : decode cX9_seen 55 = .ok (.iload_n 3, 1) := by decide +kernel
theorem dX9_seen_56 : decode cX9_seen 56 = .ok (.invokestatic 99, 3) := by decide +kernel
theorem dX9_seen_59 : decode cX9_seen 59 = .ok (.iload_n 3, 1) := by decide +kernel
theorem dX9_seen_60 : decode cX9_seen 60 = .ok (.invokestatic 102, 3) := by decide +kernel
theorem dX9_seen_63 : decode cX9_seen 63 = .ok (.invokevirtual 105, 3) := by decide +kernel
theorem dX9_seen_66 : decode cX9_seen 66 = .ok (.ireturn, 1) := by decide +kernel
theorem dX9_seenOf_0 : decode cX9_seenOf 0 = .ok (.iload_n 1, 1) := by decide +kernel
theorem dX9_seenOf_1 : decode cX9_seenOf 1 = .ok (.ifCond .lt 26, 3) := by decide +kernel
theorem dX9_seenOf_4 : decode cX9_seenOf 4 = .ok (.iload_n 1, 1) := by decide +kernel
theorem dX9_seenOf_5 : decode cX9_seenOf 5 = .ok (.aload_n 0, 1) := by decide +kernel
theorem dX9_seenOf_6 : decode cX9_seenOf 6 = .ok (.getfield 10, 3) := by decide +kernel
theorem dX9_seenOf_9 : decode cX9_seenOf 9 = .ok (.getfield 89, 3) := by decide +kernel
theorem dX9_seenOf_12 : decode cX9_seenOf 12 = .ok (.invokevirtual 109, 3) := by decide +kernel
theorem dX9_seenOf_15 : decode cX9_seenOf 15 = .ok (.if_icmp .ge 12, 3) := by decide +kernel
theorem dX9_seenOf_18 : decode cX9_seenOf 18 = .ok (.iload_n 2, 1) := by decide +kernel
theorem dX9_seenOf_19 : decode cX9_seenOf 19 = .ok (.ifCond .lt 8, 3) := by decide +kernel
theorem dX9_seenOf_22 : decode cX9_seenOf 22 = .ok (.iload_n 2, 1) := by decide +kernel
theorem dX9_seenOf_23 : decode cX9_seenOf 23 = .ok (.iconst 4, 1) := by decide +kernel
theorem dX9_seenOf_24 : decode cX9_seenOf 24 = .ok (.if_icmp .le 9, 3) := by decide +kernel
theorem dX9_seenOf_27 : decode cX9_seenOf 27 = .ok (.aload_n 0, 1) := by decide +kernel
theorem dX9_seenOf_28 : decode cX9_seenOf 28 = .ok (.iconst 0, 1) := by decide +kernel
theorem dX9_seenOf_29 : decode cX9_seenOf 29 = .ok (.invokevirtual 58, 3) := by decide +kernel
theorem dX9_seenOf_32 : decode cX9_seenOf 32 = .ok (.ireturn, 1) := by decide +kernel
theorem dX9_seenOf_33 : decode cX9_seenOf 33 = .ok (.iload_n 2, 1) := by decide +kernel
theorem dX9_seenOf_34 : decode cX9_seenOf 34 = .ok (.iconst 4, 1) := by decide +kernel
theorem dX9_seenOf_35 : decode cX9_seenOf 35 = .ok (.if_icmp .ne 23, 3) := by decide +kernel
theorem dX9_seenOf_38 : decode cX9_seenOf 38 = .ok (.aload_n 0, 1) := by decide +kernel
theorem dX9_seenOf_39 : decode cX9_seenOf 39 = .ok (.getfield 10, 3) := by decide +kernel
theorem dX9_seenOf_42 : decode cX9_seenOf 42 = .ok (.getfield 89, 3) := by decide +kernel
theorem dX9_seenOf_45 : decode cX9_seenOf 45 = .ok (.iload_n 1, 1) := by decide +kernel
theorem dX9_seenOf_46 : decode cX9_seenOf 46 = .ok (.invokevirtual 113, 3) := by decide +kernel
theorem dX9_seenOf_49 : decode cX9_seenOf 49 = .ok (.ifCond .eq 7, 3) := by decide +kernel
theorem dX9_seenOf_52 : decode cX9_seenOf 52 = .ok (.iconst 1, 1) := by decide +kernel
theorem dX9_seenOf_53 : decode cX9_seenOf 53 = .ok (.goto 4, 3) := by decide +kernel
theorem dX9_seenOf_56 : decode cX9_seenOf 56 = .ok (.iconst 0, 1) := by decide +kernel
theorem dX9_seenOf_57 : decode cX9_seenOf 57 = .ok (.ireturn, 1) := by decide +kernel
theorem dX9_seenOf_58 : decode cX9_seenOf 58 = .ok (.aload_n 0, 1) := by decide +kernel
theorem dX9_seenOf_59 : decode cX9_seenOf 59 = .ok (.getfield 10, 3) := by decide +kernel
theorem dX9_seenOf_62 : decode cX9_seenOf 62 = .ok (.getfield 89, 3) := by decide +kernel
theorem dX9_seenOf_65 : decode cX9_seenOf 65 = .ok (.iload_n 1, 1) := by decide +kernel
theorem dX9_seenOf_66 : decode cX9_seenOf 66 = .ok (.iload_n 2, 1) := by decide +kernel
theorem dX9_seenOf_67 : decode cX9_seenOf 67 = .ok (.invokevirtual 116, 3) := by decide +kernel
theorem dX9_seenOf_70 : decode cX9_seenOf 70 = .ok (.ireturn, 1) := by decide +kernel
theorem dX9_where_0 : decode cX9_where 0 = .ok (.iload_n 1, 1) := by decide +kernel
theorem dX9_where_1 : decode cX9_where 1 = .ok (.invokestatic 83, 3) := by decide +kernel
theorem dX9_where_4 : decode cX9_where 4 = .ok (.ifCond .eq 10, 3) := by decide +kernel
theorem dX9_where_7 : decode cX9_where 7 = .ok (.iload_n 2, 1) := by decide +kernel
theorem dX9_where_8 : decode cX9_where 8 = .ok (.invokestatic 86, 3) := by decide +kernel
theorem dX9_where_11 : decode cX9_where 11 = .ok (.ifCond .ne 9, 3) := by decide +kernel
theorem dX9_where_14 : decode cX9_where 14 = .ok (.aload_n 0, 1) := by decide +kernel
theorem dX9_where_15 : decode cX9_where 15 = .ok (.iconst 0, 1) := by decide +kernel
theorem dX9_where_16 : decode cX9_where 16 = .ok (.invokevirtual 58, 3) := by decide +kernel
theorem dX9_where_19 : decode cX9_where 19 = .ok (.ireturn, 1) := by decide +kernel
theorem dX9_where_20 : decode cX9_where 20 = .ok (.aload_n 0, 1) := by decide +kernel
theorem dX9_where_21 : decode cX9_where 21 = .ok (.getfield 10, 3) := by decide +kernel
theorem dX9_where_24 : decode cX9_where 24 = .ok (.getfield 89, 3) := by decide +kernel
theorem dX9_where_27 : decode cX9_where 27 = .ok (.iload_n 1, 1) := by decide +kernel
theorem dX9_where_28 : decode cX9_where 28 = .ok (.iload_n 2, 1) := by decide +kernel
theorem dX9_where_29 : decode cX9_where 29 = .ok (.invokestatic 99, 3) := by decide +kernel
theorem dX9_where_32 : decode cX9_where 32 = .ok (.iload_n 2, 1) := by decide +kernel
theorem dX9_where_33 : decode cX9_where 33 = .ok (.invokestatic 102, 3) := by decide +kernel
theorem dX9_where_36 : decode cX9_where 36 = .ok (.invokevirtual 119, 3) := by decide +kernel
theorem dX9_where_39 : decode cX9_where 39 = .ok (.istore_n 3, 1) := by decide +kernel
theorem dX9_where_40 : decode cX9_where 40 = .ok (.iload_n 3, 1) := by decide +kernel
theorem dX9_where_41 : decode cX9_where 41 = .ok (.iconst (-1), 1) := by decide +kernel
theorem dX9_where_42 : decode cX9_where 42 = .ok (.if_icmp .ne 11, 3) := by decide +kernel
theorem dX9_where_45 : decode cX9_where 45 = .ok (.aload_n 0, 1) := by decide +kernel
theorem dX9_where_46 : decode cX9_where 46 = .ok (.iconst 3, 1) := by decide +kernel
theorem dX9_where_47 : decode cX9_where 47 = .ok (.invokevirtual 58, 3) := by decide +kernel
theorem dX9_where_50 : decode cX9_where 50 = .ok (.goto 15, 3) := by decide +kernel
theorem dX9_where_53 : decode cX9_where 53 = .ok (.aload_n 0, 1) := by decide +kernel
theorem dX9_where_54 : decode cX9_where 54 = .ok (.getfield 10, 3) := by decide +kernel
theorem dX9_where_57 : decode cX9_where 57 = .ok (.getfield 89, 3) := by decide +kernel
theorem dX9_where_60 : decode cX9_where 60 = .ok (.iload_n 3, 1) := by decide +kernel
theorem dX9_where_61 : decode cX9_where 61 = .ok (.iconst 1, 1) := by decide +kernel
theorem dX9_where_62 : decode cX9_where 62 = .ok (.invokevirtual 116, 3) := by decide +kernel
theorem dX9_where_65 : decode cX9_where 65 = .ok (.ireturn, 1) := by decide +kernel
theorem dX9_could_0 : decode cX9_could 0 = .ok (.iload_n 1, 1) := by decide +kernel
theorem dX9_could_1 : decode cX9_could 1 = .ok (.invokestatic 83, 3) := by decide +kernel
theorem dX9_could_4 : decode cX9_could 4 = .ok (.ifCond .eq 10, 3) := by decide +kernel
theorem dX9_could_7 : decode cX9_could 7 = .ok (.iload_n 2, 1) := by decide +kernel
theorem dX9_could_8 : decode cX9_could 8 = .ok (.invokestatic 86, 3) := by decide +kernel
theorem dX9_could_11 : decode cX9_could 11 = .ok (.ifCond .ne 9, 3) := by decide +kernel
theorem dX9_could_14 : decode cX9_could 14 = .ok (.aload_n 0, 1) := by decide +kernel
theorem dX9_could_15 : decode cX9_could 15 = .ok (.iconst 0, 1) := by decide +kernel
theorem dX9_could_16 : decode cX9_could 16 = .ok (.invokevirtual 58, 3) := by decide +kernel
theorem dX9_could_19 : decode cX9_could 19 = .ok (.ireturn, 1) := by decide +kernel
theorem dX9_could_20 : decode cX9_could 20 = .ok (.aload_n 0, 1) := by decide +kernel
theorem dX9_could_21 : decode cX9_could 21 = .ok (.iload_n 1, 1) := by decide +kernel
theorem dX9_could_22 : decode cX9_could 22 = .ok (.iload_n 2, 1) := by decide +kernel
theorem dX9_could_23 : decode cX9_could 23 = .ok (.iconst 0, 1) := by decide +kernel
theorem dX9_could_24 : decode cX9_could 24 = .ok (.invokevirtual 123, 3) := by decide +kernel
theorem dX9_could_27 : decode cX9_could 27 = .ok (.ireturn, 1) := by decide +kernel
theorem dX9_drift_0 : decode cX9_drift 0 = .ok (.iload_n 1, 1) := by decide +kernel
theorem dX9_drift_1 : decode cX9_drift 1 = .ok (.invokestatic 83, 3) := by decide +kernel
theorem dX9_drift_4 : decode cX9_drift 4 = .ok (.ifCond .eq 21, 3) := by decide +kernel
theorem dX9_drift_7 : decode cX9_drift 7 = .ok (.iload_n 2, 1) := by decide +kernel
theorem dX9_drift_8 : decode cX9_drift 8 = .ok (.invokestatic 126, 3) := by decide +kernel
theorem dX9_drift_11 : decode cX9_drift 11 = .ok (.ifCond .eq 14, 3) := by decide +kernel
theorem dX9_drift_14 : decode cX9_drift 14 = .ok (.iload_n 3, 1) := by decide +kernel
theorem dX9_drift_15 : decode cX9_drift 15 = .ok (.iconst 1, 1) := by decide +kernel
theorem dX9_drift_16 : decode cX9_drift 16 = .ok (.if_icmp .lt 9, 3) := by decide +kernel
theorem dX9_drift_19 : decode cX9_drift 19 = .ok (.iload_n 3, 1) := by decide +kernel
theorem dX9_drift_20 : decode cX9_drift 20 = .ok (.bipush 20, 2) := by decide +kernel
theorem dX9_drift_22 : decode cX9_drift 22 = .ok (.if_icmp .le 9, 3) := by decide +kernel
theorem dX9_drift_25 : decode cX9_drift 25 = .ok (.aload_n 0, 1) := by decide +kernel
theorem dX9_drift_26 : decode cX9_drift 26 = .ok (.iconst 0, 1) := by decide +kernel
theorem dX9_drift_27 : decode cX9_drift 27 = .ok (.invokevirtual 58, 3) := by decide +kernel
theorem dX9_drift_30 : decode cX9_drift 30 = .ok (.ireturn, 1) := by decide +kernel
theorem dX9_drift_31 : decode cX9_drift 31 = .ok (.iconst 0, 1) := by decide +kernel
theorem dX9_drift_32 : decode cX9_drift 32 = .ok (.istore 4, 2) := by decide +kernel
theorem dX9_drift_34 : decode cX9_drift 34 = .ok (.iload 4, 2) := by decide +kernel
theorem dX9_drift_36 : decode cX9_drift 36 = .ok (.iload_n 3, 1) := by decide +kernel
theorem dX9_drift_37 : decode cX9_drift 37 = .ok (.if_icmp .ge 63, 3) := by decide +kernel
theorem dX9_drift_40 : decode cX9_drift 40 = .ok (.aload_n 0, 1) := by decide +kernel
theorem dX9_drift_41 : decode cX9_drift 41 = .ok (.getfield 10, 3) := by decide +kernel
theorem dX9_drift_44 : decode cX9_drift 44 = .ok (.getfield 89, 3) := by decide +kernel
theorem dX9_drift_47 : decode cX9_drift 47 = .ok (.invokevirtual 93, 3) := by decide +kernel
theorem dX9_drift_50 : decode cX9_drift 50 = .ok (.ifCond .eq 50, 3) := by decide +kernel
theorem dX9_drift_53 : decode cX9_drift 53 = .ok (.aload_n 0, 1) := by decide +kernel
theorem dX9_drift_54 : decode cX9_drift 54 = .ok (.getfield 10, 3) := by decide +kernel
theorem dX9_drift_57 : decode cX9_drift 57 = .ok (.invokevirtual 129, 3) := by decide +kernel
theorem dX9_drift_60 : decode cX9_drift 60 = .ok (.bipush 8, 2) := by decide +kernel
theorem dX9_drift_62 : decode cX9_drift 62 = .ok (.irem, 1) := by decide +kernel
theorem dX9_drift_63 : decode cX9_drift 63 = .ok (.istore 5, 2) := by decide +kernel
theorem dX9_drift_65 : decode cX9_drift 65 = .ok (.aload_n 0, 1) := by decide +kernel
theorem dX9_drift_66 : decode cX9_drift 66 = .ok (.getfield 10, 3) := by decide +kernel
theorem dX9_drift_69 : decode cX9_drift 69 = .ok (.invokevirtual 129, 3) := by decide +kernel
theorem dX9_drift_72 : decode cX9_drift 72 = .ok (.bipush 24, 2) := by decide +kernel
theorem dX9_drift_74 : decode cX9_drift 74 = .ok (.irem, 1) := by decide +kernel
theorem dX9_drift_75 : decode cX9_drift 75 = .ok (.istore 6, 2) := by decide +kernel
theorem dX9_drift_77 : decode cX9_drift 77 = .ok (.aload_n 0, 1) := by decide +kernel
theorem dX9_drift_78 : decode cX9_drift 78 = .ok (.getfield 10, 3) := by decide +kernel
theorem dX9_drift_81 : decode cX9_drift 81 = .ok (.getfield 89, 3) := by decide +kernel
theorem dX9_drift_84 : decode cX9_drift 84 = .ok (.iload_n 1, 1) := by decide +kernel
theorem dX9_drift_85 : decode cX9_drift 85 = .ok (.iload 5, 2) := by decide +kernel
theorem dX9_drift_87 : decode cX9_drift 87 = .ok (.iload_n 2, 1) := by decide +kernel
theorem dX9_drift_88 : decode cX9_drift 88 = .ok (.iload 6, 2) := by decide +kernel
theorem dX9_drift_90 : decode cX9_drift 90 = .ok (.invokevirtual 105, 3) := by decide +kernel
theorem dX9_drift_93 : decode cX9_drift 93 = .ok (.pop, 1) := by decide +kernel
theorem dX9_drift_94 : decode cX9_drift 94 = .ok (.iinc 4 1, 3) := by decide +kernel
theorem dX9_drift_97 : decode cX9_drift 97 = .ok (.goto (-63), 3) := by decide +kernel
theorem dX9_drift_100 : decode cX9_drift 100 = .ok (.aload_n 0, 1) := by decide +kernel
theorem dX9_drift_101 : decode cX9_drift 101 = .ok (.getfield 10, 3) := by decide +kernel
theorem dX9_drift_104 : decode cX9_drift 104 = .ok (.getfield 89, 3) := by decide +kernel
theorem dX9_drift_107 : decode cX9_drift 107 = .ok (.invokevirtual 109, 3) := by decide +kernel
theorem dX9_drift_110 : decode cX9_drift 110 = .ok (.ireturn, 1) := by decide +kernel
theorem dX9_term_0 : decode cX9_term 0 = .ok (.iload_n 1, 1) := by decide +kernel
theorem dX9_term_1 : decode cX9_term 1 = .ok (.invokestatic 132, 3) := by decide +kernel
theorem dX9_term_4 : decode cX9_term 4 = .ok (.ifCond .eq 17, 3) := by decide +kernel
theorem dX9_term_7 : decode cX9_term 7 = .ok (.iload_n 2, 1) := by decide +kernel
theorem dX9_term_8 : decode cX9_term 8 = .ok (.invokestatic 83, 3) := by decide +kernel
theorem dX9_term_11 : decode cX9_term 11 = .ok (.ifCond .eq 10, 3) := by decide +kernel
theorem dX9_term_14 : decode cX9_term 14 = .ok (.iload_n 3, 1) := by decide +kernel
theorem dX9_term_15 : decode cX9_term 15 = .ok (.invokestatic 54, 3) := by decide +kernel
theorem dX9_term_18 : decode cX9_term 18 = .ok (.ifCond .ne 9, 3) := by decide +kernel
theorem dX9_term_21 : decode cX9_term 21 = .ok (.aload_n 0, 1) := by decide +kernel
theorem dX9_term_22 : decode cX9_term 22 = .ok (.iconst 0, 1) := by decide +kernel
theorem dX9_term_23 : decode cX9_term 23 = .ok (.invokevirtual 58, 3) := by decide +kernel
theorem dX9_term_26 : decode cX9_term 26 = .ok (.ireturn, 1) := by decide +kernel
theorem dX9_term_27 : decode cX9_term 27 = .ok (.aload_n 0, 1) := by decide +kernel
theorem dX9_term_28 : decode cX9_term 28 = .ok (.getfield 10, 3) := by decide +kernel
theorem dX9_term_31 : decode cX9_term 31 = .ok (.getfield 137, 3) := by decide +kernel
theorem dX9_term_34 : decode cX9_term 34 = .ok (.iload_n 2, 1) := by decide +kernel
theorem dX9_term_35 : decode cX9_term 35 = .ok (.invokevirtual 141, 3) := by decide +kernel
theorem dX9_term_38 : decode cX9_term 38 = .ok (.ifCond .ne 9, 3) := by decide +kernel
theorem dX9_term_41 : decode cX9_term 41 = .ok (.aload_n 0, 1) := by decide +kernel
theorem dX9_term_42 : decode cX9_term 42 = .ok (.iconst 1, 1) := by decide +kernel
theorem dX9_term_43 : decode cX9_term 43 = .ok (.invokevirtual 58, 3) := by decide +kernel
theorem dX9_term_46 : decode cX9_term 46 = .ok (.ireturn, 1) := by decide +kernel
theorem dX9_term_47 : decode cX9_term 47 = .ok (.aload_n 0, 1) := by decide +kernel
theorem dX9_term_48 : decode cX9_term 48 = .ok (.getfield 10, 3) := by decide +kernel
theorem dX9_term_51 : decode cX9_term 51 = .ok (.getfield 137, 3) := by decide +kernel
theorem dX9_term_54 : decode cX9_term 54 = .ok (.iload_n 1, 1) := by decide +kernel
theorem dX9_term_55 : decode cX9_term 55 = .ok (.iload_n 2, 1) := by decide +kernel
theorem dX9_term_56 : decode cX9_term 56 = .ok (.iload_n 3, 1) := by decide +kernel
theorem dX9_term_57 : decode cX9_term 57 = .ok (.invokevirtual 144, 3) := by decide +kernel
theorem dX9_term_60 : decode cX9_term 60 = .ok (.ireturn, 1) := by decide +kernel
theorem dX9_termOf_0 : decode cX9_termOf 0 = .ok (.aload_n 0, 1) := by decide +kernel
theorem dX9_termOf_1 : decode cX9_termOf 1 = .ok (.getfield 10, 3) := by decide +kernel
theorem dX9_termOf_4 : decode cX9_termOf 4 = .ok (.getfield 137, 3) := by decide +kernel
theorem dX9_termOf_7 : decode cX9_termOf 7 = .ok (.iload_n 1, 1) := by decide +kernel
theorem dX9_termOf_8 : decode cX9_termOf 8 = .ok (.invokevirtual 146, 3) := by decide +kernel
theorem dX9_termOf_11 : decode cX9_termOf 11 = .ok (.ifCond .eq 13, 3) := by decide +kernel
theorem dX9_termOf_14 : decode cX9_termOf 14 = .ok (.iload_n 2, 1) := by decide +kernel
theorem dX9_termOf_15 : decode cX9_termOf 15 = .ok (.ifCond .lt 9, 3) := by decide +kernel
theorem dX9_termOf_18 : decode cX9_termOf 18 = .ok (.iload_n 2, 1) := by decide +kernel
theorem dX9_termOf_19 : decode cX9_termOf 19 = .ok (.bipush 7, 2) := by decide +kernel
theorem dX9_termOf_21 : decode cX9_termOf 21 = .ok (.if_icmp .le 9, 3) := by decide +kernel
theorem dX9_termOf_24 : decode cX9_termOf 24 = .ok (.aload_n 0, 1) := by decide +kernel
theorem dX9_termOf_25 : decode cX9_termOf 25 = .ok (.iconst 0, 1) := by decide +kernel
theorem dX9_termOf_26 : decode cX9_termOf 26 = .ok (.invokevirtual 58, 3) := by decide +kernel
theorem dX9_termOf_29 : decode cX9_termOf 29 = .ok (.ireturn, 1) := by decide +kernel
theorem dX9_termOf_30 : decode cX9_termOf 30 = .ok (.iload_n 2, 1) := by decide +kernel
theorem dX9_termOf_31 : decode cX9_termOf 31 = .ok (.bipush 7, 2) := by decide +kernel
theorem dX9_termOf_33 : decode cX9_termOf 33 = .ok (.if_icmp .ne 17, 3) := by decide +kernel
theorem dX9_termOf_36 : decode cX9_termOf 36 = .ok (.aload_n 0, 1) := by decide +kernel
theorem dX9_termOf_37 : decode cX9_termOf 37 = .ok (.getfield 10, 3) := by decide +kernel
theorem dX9_termOf_40 : decode cX9_termOf 40 = .ok (.getfield 137, 3) := by decide +kernel
theorem dX9_termOf_43 : decode cX9_termOf 43 = .ok (.iload_n 1, 1) := by decide +kernel
theorem dX9_termOf_44 : decode cX9_termOf 44 = .ok (.invokevirtual 149, 3) := by decide +kernel
theorem dX9_termOf_47 : decode cX9_termOf 47 = .ok (.goto 15, 3) := by decide +kernel
theorem dX9_termOf_50 : decode cX9_termOf 50 = .ok (.aload_n 0, 1) := by decide +kernel
theorem dX9_termOf_51 : decode cX9_termOf 51 = .ok (.getfield 10, 3) := by decide +kernel
theorem dX9_termOf_54 : decode cX9_termOf 54 = .ok (.getfield 137, 3) := by decide +kernel
theorem dX9_termOf_57 : decode cX9_termOf 57 = .ok (.iload_n 1, 1) := by decide +kernel
theorem dX9_termOf_58 : decode cX9_termOf 58 = .ok (.iload_n 2, 1) := by decide +kernel
theorem dX9_termOf_59 : decode cX9_termOf 59 = .ok (.invokevirtual 152, 3) := by decide +kernel
theorem dX9_termOf_62 : decode cX9_termOf 62 = .ok (.ireturn, 1) := by decide +kernel
theorem dX9_span_0 : decode cX9_span 0 = .ok (.aload_n 0, 1) := by decide +kernel
theorem dX9_span_1 : decode cX9_span 1 = .ok (.getfield 10, 3) := by decide +kernel
theorem dX9_span_4 : decode cX9_span 4 = .ok (.getfield 137, 3) := by decide +kernel
theorem dX9_span_7 : decode cX9_span 7 = .ok (.iload_n 1, 1) := by decide +kernel
theorem dX9_span_8 : decode cX9_span 8 = .ok (.invokevirtual 146, 3) := by decide +kernel
theorem dX9_span_11 : decode cX9_span 11 = .ok (.ifCond .eq 12, 3) := by decide +kernel
theorem dX9_span_14 : decode cX9_span 14 = .ok (.iload_n 2, 1) := by decide +kernel
theorem dX9_span_15 : decode cX9_span 15 = .ok (.ifCond .lt 8, 3) := by decide +kernel
theorem dX9_span_18 : decode cX9_span 18 = .ok (.iload_n 2, 1) := by decide +kernel
theorem dX9_span_19 : decode cX9_span 19 = .ok (.iconst 1, 1) := by decide +kernel
theorem dX9_span_20 : decode cX9_span 20 = .ok (.if_icmp .le 9, 3) := by decide +kernel
theorem dX9_span_23 : decode cX9_span 23 = .ok (.aload_n 0, 1) := by decide +kernel
theorem dX9_span_24 : decode cX9_span 24 = .ok (.iconst 0, 1) := by decide +kernel
theorem dX9_span_25 : decode cX9_span 25 = .ok (.invokevirtual 58, 3) := by decide +kernel
theorem dX9_span_28 : decode cX9_span 28 = .ok (.ireturn, 1) := by decide +kernel
theorem dX9_span_29 : decode cX9_span 29 = .ok (.iload_n 2, 1) := by decide +kernel
theorem dX9_span_30 : decode cX9_span 30 = .ok (.ifCond .ne 8, 3) := by decide +kernel
theorem dX9_span_33 : decode cX9_span 33 = .ok (.bipush 24, 2) := by decide +kernel
theorem dX9_span_35 : decode cX9_span 35 = .ok (.goto 5, 3) := by decide +kernel
theorem dX9_span_38 : decode cX9_span 38 = .ok (.bipush 30, 2) := by decide +kernel
theorem dX9_span_40 : decode cX9_span 40 = .ok (.istore 5, 2) := by decide +kernel
theorem dX9_span_42 : decode cX9_span 42 = .ok (.iload_n 3, 1) := by decide +kernel
theorem dX9_span_43 : decode cX9_span 43 = .ok (.ifCond .lt 16, 3) := by decide +kernel
theorem dX9_span_46 : decode cX9_span 46 = .ok (.iload 4, 2) := by decide +kernel
theorem dX9_span_48 : decode cX9_span 48 = .ok (.iload_n 3, 1) := by decide +kernel
theorem dX9_span_49 : decode cX9_span 49 = .ok (.if_icmp .lt 10, 3) := by decide +kernel
theorem dX9_span_52 : decode cX9_span 52 = .ok (.iload 4, 2) := by decide +kernel
theorem dX9_span_54 : decode cX9_span 54 = .ok (.iload 5, 2) := by decide +kernel
theorem dX9_span_56 : decode cX9_span 56 = .ok (.if_icmp .lt 9, 3) := by decide +kernel
theorem dX9_span_59 : decode cX9_span 59 = .ok (.aload_n 0, 1) := by decide +kernel
theorem dX9_span_60 : decode cX9_span 60 = .ok (.iconst 0, 1) := by decide +kernel
theorem dX9_span_61 : decode cX9_span 61 = .ok (.invokevirtual 58, 3) := by decide +kernel
theorem dX9_span_64 : decode cX9_span 64 = .ok (.ireturn, 1) := by decide +kernel
theorem dX9_span_65 : decode cX9_span 65 = .ok (.iload_n 2, 1) := by decide +kernel
theorem dX9_span_66 : decode cX9_span 66 = .ok (.ifCond .ne 20, 3) := by decide +kernel
theorem dX9_span_69 : decode cX9_span 69 = .ok (.aload_n 0, 1) := by decide +kernel
theorem dX9_span_70 : decode cX9_span 70 = .ok (.getfield 10, 3) := by decide +kernel
theorem dX9_span_73 : decode cX9_span 73 = .ok (.getfield 137, 3) := by decide +kernel
theorem dX9_span_76 : decode cX9_span 76 = .ok (.iload_n 1, 1) := by decide +kernel
theorem dX9_span_77 : decode cX9_span 77 = .ok (.iload_n 3, 1) := by decide +kernel
theorem dX9_span_78 : decode cX9_span 78 = .ok (.iload 4, 2) := by decide +kernel
theorem dX9_span_80 : decode cX9_span 80 = .ok (.invokevirtual 153, 3) := by decide +kernel
theorem dX9_span_83 : decode cX9_span 83 = .ok (.goto 17, 3) := by decide +kernel
theorem dX9_span_86 : decode cX9_span 86 = .ok (.aload_n 0, 1) := by decide +kernel
theorem dX9_span_87 : decode cX9_span 87 = .ok (.getfield 10, 3) := by decide +kernel
theorem dX9_span_90 : decode cX9_span 90 = .ok (.getfield 137, 3) := by decide +kernel
theorem dX9_span_93 : decode cX9_span 93 = .ok (.iload_n 1, 1) := by decide +kernel
theorem dX9_span_94 : decode cX9_span 94 = .ok (.iload_n 3, 1) := by decide +kernel
theorem dX9_span_95 : decode cX9_span 95 = .ok (.iload 4, 2) := by decide +kernel
theorem dX9_span_97 : decode cX9_span 97 = .ok (.invokevirtual 157, 3) := by decide +kernel
theorem dX9_span_100 : decode cX9_span 100 = .ok (.iconst 1, 1) := by decide +kernel
theorem dX9_span_101 : decode cX9_span 101 = .ok (.ireturn, 1) := by decide +kernel
theorem dX9_turn_0 : decode cX9_turn 0 = .ok (.aload_n 0, 1) := by decide +kernel
theorem dX9_turn_1 : decode cX9_turn 1 = .ok (.getfield 10, 3) := by decide +kernel
theorem dX9_turn_4 : decode cX9_turn 4 = .ok (.getfield 137, 3) := by decide +kernel
theorem dX9_turn_7 : decode cX9_turn 7 = .ok (.iload_n 1, 1) := by decide +kernel
theorem dX9_turn_8 : decode cX9_turn 8 = .ok (.invokevirtual 146, 3) := by decide +kernel
theorem dX9_turn_11 : decode cX9_turn 11 = .ok (.ifCond .eq 10, 3) := by decide +kernel
theorem dX9_turn_14 : decode cX9_turn 14 = .ok (.iload_n 2, 1) := by decide +kernel
theorem dX9_turn_15 : decode cX9_turn 15 = .ok (.invokestatic 132, 3) := by decide +kernel
theorem dX9_turn_18 : decode cX9_turn 18 = .ok (.ifCond .ne 9, 3) := by decide +kernel
theorem dX9_turn_21 : decode cX9_turn 21 = .ok (.aload_n 0, 1) := by decide +kernel
theorem dX9_turn_22 : decode cX9_turn 22 = .ok (.iconst 0, 1) := by decide +kernel
theorem dX9_turn_23 : decode cX9_turn 23 = .ok (.invokevirtual 58, 3) := by decide +kernel
theorem dX9_turn_26 : decode cX9_turn 26 = .ok (.ireturn, 1) := by decide +kernel
theorem dX9_turn_27 : decode cX9_turn 27 = .ok (.aload_n 0, 1) := by decide +kernel
theorem dX9_turn_28 : decode cX9_turn 28 = .ok (.getfield 10, 3) := by decide +kernel
theorem dX9_turn_31 : decode cX9_turn 31 = .ok (.getfield 137, 3) := by decide +kernel
theorem dX9_turn_34 : decode cX9_turn 34 = .ok (.iload_n 1, 1) := by decide +kernel
theorem dX9_turn_35 : decode cX9_turn 35 = .ok (.iconst 0, 1) := by decide +kernel
theorem dX9_turn_36 : decode cX9_turn 36 = .ok (.invokevirtual 152, 3) := by decide +kernel
theorem dX9_turn_39 : decode cX9_turn 39 = .ok (.istore_n 3, 1) := by decide +kernel
theorem dX9_turn_40 : decode cX9_turn 40 = .ok (.aload_n 0, 1) := by decide +kernel
theorem dX9_turn_41 : decode cX9_turn 41 = .ok (.getfield 10, 3) := by decide +kernel
theorem dX9_turn_44 : decode cX9_turn 44 = .ok (.getfield 137, 3) := by decide +kernel
theorem dX9_turn_47 : decode cX9_turn 47 = .ok (.iload_n 1, 1) := by decide +kernel
theorem dX9_turn_48 : decode cX9_turn 48 = .ok (.iload_n 2, 1) := by decide +kernel
theorem dX9_turn_49 : decode cX9_turn 49 = .ok (.invokevirtual 160, 3) := by decide +kernel
theorem dX9_turn_52 : decode cX9_turn 52 = .ok (.iload_n 3, 1) := by decide +kernel
theorem dX9_turn_53 : decode cX9_turn 53 = .ok (.ireturn, 1) := by decide +kernel
theorem dX9_change_0 : decode cX9_change 0 = .ok (.aload_n 0, 1) := by decide +kernel
theorem dX9_change_1 : decode cX9_change 1 = .ok (.getfield 10, 3) := by decide +kernel
theorem dX9_change_4 : decode cX9_change 4 = .ok (.getfield 137, 3) := by decide +kernel
theorem dX9_change_7 : decode cX9_change 7 = .ok (.astore 4, 2) := by decide +kernel
theorem dX9_change_9 : decode cX9_change 9 = .ok (.aload 4, 2) := by decide +kernel
theorem dX9_change_11 : decode cX9_change 11 = .ok (.iload_n 1, 1) := by decide +kernel
theorem dX9_change_12 : decode cX9_change 12 = .ok (.invokevirtual 146, 3) := by decide +kernel
theorem dX9_change_15 : decode cX9_change 15 = .ok (.ifCond .eq 21, 3) := by decide +kernel
theorem dX9_change_18 : decode cX9_change 18 = .ok (.iload_n 2, 1) := by decide +kernel
theorem dX9_change_19 : decode cX9_change 19 = .ok (.iconst 1, 1) := by decide +kernel
theorem dX9_change_20 : decode cX9_change 20 = .ok (.if_icmp .lt 16, 3) := by decide +kernel
theorem dX9_change_23 : decode cX9_change 23 = .ok (.iload_n 2, 1) := by decide +kernel
theorem dX9_change_24 : decode cX9_change 24 = .ok (.bipush 30, 2) := by decide +kernel
theorem dX9_change_26 : decode cX9_change 26 = .ok (.if_icmp .ge 10, 3) := by decide +kernel
theorem dX9_change_29 : decode cX9_change 29 = .ok (.iload_n 3, 1) := by decide +kernel
theorem dX9_change_30 : decode cX9_change 30 = .ok (.invokestatic 54, 3) := by decide +kernel
theorem dX9_change_33 : decode cX9_change 33 = .ok (.ifCond .ne 9, 3) := by decide +kernel
theorem dX9_change_36 : decode cX9_change 36 = .ok (.aload_n 0, 1) := by decide +kernel
theorem dX9_change_37 : decode cX9_change 37 = .ok (.iconst 0, 1) := by decide +kernel
theorem dX9_change_38 : decode cX9_change 38 = .ok (.invokevirtual 58, 3) := by decide +kernel
theorem dX9_change_41 : decode cX9_change 41 = .ok (.ireturn, 1) := by decide +kernel
theorem dX9_change_42 : decode cX9_change 42 = .ok (.aload 4, 2) := by decide +kernel
theorem dX9_change_44 : decode cX9_change 44 = .ok (.iload_n 1, 1) := by decide +kernel
theorem dX9_change_45 : decode cX9_change 45 = .ok (.iconst 5, 1) := by decide +kernel
theorem dX9_change_46 : decode cX9_change 46 = .ok (.invokevirtual 152, 3) := by decide +kernel
theorem dX9_change_49 : decode cX9_change 49 = .ok (.istore 5, 2) := by decide +kernel
theorem dX9_change_51 : decode cX9_change 51 = .ok (.aload 4, 2) := by decide +kernel
theorem dX9_change_53 : decode cX9_change 53 = .ok (.iload_n 1, 1) := by decide +kernel
theorem dX9_change_54 : decode cX9_change 54 = .ok (.bipush 6, 2) := by decide +kernel
theorem dX9_change_56 : decode cX9_change 56 = .ok (.invokevirtual 152, 3) := by decide +kernel
theorem dX9_change_59 : decode cX9_change 59 = .ok (.istore 6, 2) := by decide +kernel
theorem dX9_change_61 : decode cX9_change 61 = .ok (.iload_n 2, 1) := by decide +kernel
theorem dX9_change_62 : decode cX9_change 62 = .ok (.iload 5, 2) := by decide +kernel
theorem dX9_change_64 : decode cX9_change 64 = .ok (.if_icmp .le 9, 3) := by decide +kernel
theorem dX9_change_67 : decode cX9_change 67 = .ok (.iload_n 2, 1) := by decide +kernel
theorem dX9_change_68 : decode cX9_change 68 = .ok (.iload 6, 2) := by decide +kernel
theorem dX9_change_70 : decode cX9_change 70 = .ok (.if_icmp .le 9, 3) := by decide +kernel
theorem dX9_change_73 : decode cX9_change 73 = .ok (.aload_n 0, 1) := by decide +kernel
theorem dX9_change_74 : decode cX9_change 74 = .ok (.iconst 4, 1) := by decide +kernel
theorem dX9_change_75 : decode cX9_change 75 = .ok (.invokevirtual 58, 3) := by decide +kernel
theorem dX9_change_78 : decode cX9_change 78 = .ok (.ireturn, 1) := by decide +kernel
theorem dX9_change_79 : decode cX9_change 79 = .ok (.aload 4, 2) := by decide +kernel
theorem dX9_change_81 : decode cX9_change 81 = .ok (.iload_n 1, 1) := by decide +kernel
theorem dX9_change_82 : decode cX9_change 82 = .ok (.iconst 1, 1) := by decide +kernel
theorem dX9_change_83 : decode cX9_change 83 = .ok (.invokevirtual 152, 3) := by decide +kernel
theorem dX9_change_86 : decode cX9_change 86 = .ok (.istore 7, 2) := by decide +kernel
theorem dX9_change_88 : decode cX9_change 88 = .ok (.aload 4, 2) := by decide +kernel
theorem dX9_change_90 : decode cX9_change 90 = .ok (.iload 7, 2) := by decide +kernel
theorem dX9_change_92 : decode cX9_change 92 = .ok (.invokevirtual 141, 3) := by decide +kernel
theorem dX9_change_95 : decode cX9_change 95 = .ok (.ifCond .ne 9, 3) := by decide +kernel
theorem dX9_change_98 : decode cX9_change 98 = .ok (.aload_n 0, 1) := by decide +kernel
theorem dX9_change_99 : decode cX9_change 99 = .ok (.iconst 1, 1) := by decide +kernel
theorem dX9_change_100 : decode cX9_change 100 = .ok (.invokevirtual 58, 3) := by decide +kernel
theorem dX9_change_103 : decode cX9_change 103 = .ok (.ireturn, 1) := by decide +kernel
theorem dX9_change_104 : decode cX9_change 104 = .ok (.aload 4, 2) := by decide +kernel
theorem dX9_change_106 : decode cX9_change 106 = .ok (.aload 4, 2) := by decide +kernel
theorem dX9_change_108 : decode cX9_change 108 = .ok (.iload_n 1, 1) := by decide +kernel
theorem dX9_change_109 : decode cX9_change 109 = .ok (.iconst 0, 1) := by decide +kernel
theorem dX9_change_110 : decode cX9_change 110 = .ok (.invokevirtual 152, 3) := by decide +kernel
theorem dX9_change_113 : decode cX9_change 113 = .ok (.iload 7, 2) := by decide +kernel
theorem dX9_change_115 : decode cX9_change 115 = .ok (.iload_n 3, 1) := by decide +kernel
theorem dX9_change_116 : decode cX9_change 116 = .ok (.invokevirtual 144, 3) := by decide +kernel
theorem dX9_change_119 : decode cX9_change 119 = .ok (.istore 8, 2) := by decide +kernel
theorem dX9_change_121 : decode cX9_change 121 = .ok (.aload 4, 2) := by decide +kernel
theorem dX9_change_123 : decode cX9_change 123 = .ok (.iload 8, 2) := by decide +kernel
theorem dX9_change_125 : decode cX9_change 125 = .ok (.aload 4, 2) := by decide +kernel
theorem dX9_change_127 : decode cX9_change 127 = .ok (.iload_n 1, 1) := by decide +kernel
theorem dX9_change_128 : decode cX9_change 128 = .ok (.iconst 3, 1) := by decide +kernel
theorem dX9_change_129 : decode cX9_change 129 = .ok (.invokevirtual 152, 3) := by decide +kernel
theorem dX9_change_132 : decode cX9_change 132 = .ok (.aload 4, 2) := by decide +kernel
theorem dX9_change_134 : decode cX9_change 134 = .ok (.iload_n 1, 1) := by decide +kernel
theorem dX9_change_135 : decode cX9_change 135 = .ok (.iconst 4, 1) := by decide +kernel
theorem dX9_change_136 : decode cX9_change 136 = .ok (.invokevirtual 152, 3) := by decide +kernel
theorem dX9_change_139 : decode cX9_change 139 = .ok (.invokevirtual 153, 3) := by decide +kernel
theorem dX9_change_142 : decode cX9_change 142 = .ok (.aload 4, 2) := by decide +kernel
theorem dX9_change_144 : decode cX9_change 144 = .ok (.iload 8, 2) := by decide +kernel
theorem dX9_change_146 : decode cX9_change 146 = .ok (.iload_n 2, 1) := by decide +kernel
theorem dX9_change_147 : decode cX9_change 147 = .ok (.iload 6, 2) := by decide +kernel
theorem dX9_change_149 : decode cX9_change 149 = .ok (.invokevirtual 157, 3) := by decide +kernel
theorem dX9_change_152 : decode cX9_change 152 = .ok (.aload 4, 2) := by decide +kernel
theorem dX9_change_154 : decode cX9_change 154 = .ok (.iload_n 1, 1) := by decide +kernel
theorem dX9_change_155 : decode cX9_change 155 = .ok (.iload 5, 2) := by decide +kernel
theorem dX9_change_157 : decode cX9_change 157 = .ok (.iload_n 2, 1) := by decide +kernel
theorem dX9_change_158 : decode cX9_change 158 = .ok (.iconst 1, 1) := by decide +kernel
theorem dX9_change_159 : decode cX9_change 159 = .ok (.isub, 1) := by decide +kernel
theorem dX9_change_160 : decode cX9_change 160 = .ok (.invokevirtual 157, 3) := by decide +kernel
theorem dX9_change_163 : decode cX9_change 163 = .ok (.iload 8, 2) := by decide +kernel
theorem dX9_change_165 : decode cX9_change 165 = .ok (.ireturn, 1) := by decide +kernel
theorem dX9_bad_0 : decode cX9_bad 0 = .ok (.aload_n 0, 1) := by decide +kernel
theorem dX9_bad_1 : decode cX9_bad 1 = .ok (.getfield 10, 3) := by decide +kernel
theorem dX9_bad_4 : decode cX9_bad 4 = .ok (.getfield 137, 3) := by decide +kernel
theorem dX9_bad_7 : decode cX9_bad 7 = .ok (.iload_n 1, 1) := by decide +kernel
theorem dX9_bad_8 : decode cX9_bad 8 = .ok (.invokevirtual 146, 3) := by decide +kernel
theorem dX9_bad_11 : decode cX9_bad 11 = .ok (.ifCond .eq 14, 3) := by decide +kernel
theorem dX9_bad_14 : decode cX9_bad 14 = .ok (.aload_n 0, 1) := by decide +kernel
theorem dX9_bad_15 : decode cX9_bad 15 = .ok (.getfield 10, 3) := by decide +kernel
theorem dX9_bad_18 : decode cX9_bad 18 = .ok (.iload_n 1, 1) := by decide +kernel
theorem dX9_bad_19 : decode cX9_bad 19 = .ok (.invokevirtual 164, 3) := by decide +kernel
theorem dX9_bad_22 : decode cX9_bad 22 = .ok (.goto 8, 3) := by decide +kernel
theorem dX9_bad_25 : decode cX9_bad 25 = .ok (.aload_n 0, 1) := by decide +kernel
theorem dX9_bad_26 : decode cX9_bad 26 = .ok (.iconst 0, 1) := by decide +kernel
theorem dX9_bad_27 : decode cX9_bad 27 = .ok (.invokevirtual 58, 3) := by decide +kernel
theorem dX9_bad_30 : decode cX9_bad 30 = .ok (.ireturn, 1) := by decide +kernel
theorem dX9_inForce_0 : decode cX9_inForce 0 = .ok (.iload_n 1, 1) := by decide +kernel
theorem dX9_inForce_1 : decode cX9_inForce 1 = .ok (.invokestatic 83, 3) := by decide +kernel
theorem dX9_inForce_4 : decode cX9_inForce 4 = .ok (.ifCond .eq 10, 3) := by decide +kernel
theorem dX9_inForce_7 : decode cX9_inForce 7 = .ok (.iload_n 2, 1) := by decide +kernel
theorem dX9_inForce_8 : decode cX9_inForce 8 = .ok (.invokestatic 126, 3) := by decide +kernel
theorem dX9_inForce_11 : decode cX9_inForce 11 = .ok (.ifCond .ne 9, 3) := by decide +kernel
theorem dX9_inForce_14 : decode cX9_inForce 14 = .ok (.aload_n 0, 1) := by decide +kernel
theorem dX9_inForce_15 : decode cX9_inForce 15 = .ok (.iconst 0, 1) := by decide +kernel
theorem dX9_inForce_16 : decode cX9_inForce 16 = .ok (.invokevirtual 58, 3) := by decide +kernel
theorem dX9_inForce_19 : decode cX9_inForce 19 = .ok (.ireturn, 1) := by decide +kernel
theorem dX9_inForce_20 : decode cX9_inForce 20 = .ok (.aload_n 0, 1) := by decide +kernel
theorem dX9_inForce_21 : decode cX9_inForce 21 = .ok (.getfield 10, 3) := by decide +kernel
theorem dX9_inForce_24 : decode cX9_inForce 24 = .ok (.getfield 137, 3) := by decide +kernel
theorem dX9_inForce_27 : decode cX9_inForce 27 = .ok (.iload_n 1, 1) := by decide +kernel
theorem dX9_inForce_28 : decode cX9_inForce 28 = .ok (.iload_n 2, 1) := by decide +kernel
theorem dX9_inForce_29 : decode cX9_inForce 29 = .ok (.invokevirtual 167, 3) := by decide +kernel
theorem dX9_inForce_32 : decode cX9_inForce 32 = .ok (.ireturn, 1) := by decide +kernel
theorem dX9_kept_0 : decode cX9_kept 0 = .ok (.aload_n 0, 1) := by decide +kernel
theorem dX9_kept_1 : decode cX9_kept 1 = .ok (.getfield 10, 3) := by decide +kernel
theorem dX9_kept_4 : decode cX9_kept 4 = .ok (.getfield 137, 3) := by decide +kernel
theorem dX9_kept_7 : decode cX9_kept 7 = .ok (.iload_n 1, 1) := by decide +kernel
theorem dX9_kept_8 : decode cX9_kept 8 = .ok (.invokevirtual 146, 3) := by decide +kernel
theorem dX9_kept_11 : decode cX9_kept 11 = .ok (.ifCond .eq 10, 3) := by decide +kernel
theorem dX9_kept_14 : decode cX9_kept 14 = .ok (.iload_n 2, 1) := by decide +kernel
theorem dX9_kept_15 : decode cX9_kept 15 = .ok (.invokestatic 126, 3) := by decide +kernel
theorem dX9_kept_18 : decode cX9_kept 18 = .ok (.ifCond .ne 9, 3) := by decide +kernel
theorem dX9_kept_21 : decode cX9_kept 21 = .ok (.aload_n 0, 1) := by decide +kernel
theorem dX9_kept_22 : decode cX9_kept 22 = .ok (.iconst 0, 1) := by decide +kernel
theorem dX9_kept_23 : decode cX9_kept 23 = .ok (.invokevirtual 58, 3) := by decide +kernel
theorem dX9_kept_26 : decode cX9_kept 26 = .ok (.ireturn, 1) := by decide +kernel
theorem dX9_kept_27 : decode cX9_kept 27 = .ok (.aload_n 0, 1) := by decide +kernel
theorem dX9_kept_28 : decode cX9_kept 28 = .ok (.getfield 10, 3) := by decide +kernel
theorem dX9_kept_31 : decode cX9_kept 31 = .ok (.getfield 137, 3) := by decide +kernel
theorem dX9_kept_34 : decode cX9_kept 34 = .ok (.iload_n 1, 1) := by decide +kernel
theorem dX9_kept_35 : decode cX9_kept 35 = .ok (.iload_n 2, 1) := by decide +kernel
theorem dX9_kept_36 : decode cX9_kept 36 = .ok (.invokevirtual 170, 3) := by decide +kernel
theorem dX9_kept_39 : decode cX9_kept 39 = .ok (.ifCond .ne 9, 3) := by decide +kernel
theorem dX9_kept_42 : decode cX9_kept 42 = .ok (.aload_n 0, 1) := by decide +kernel
theorem dX9_kept_43 : decode cX9_kept 43 = .ok (.iconst 3, 1) := by decide +kernel
theorem dX9_kept_44 : decode cX9_kept 44 = .ok (.invokevirtual 58, 3) := by decide +kernel
theorem dX9_kept_47 : decode cX9_kept 47 = .ok (.ireturn, 1) := by decide +kernel
theorem dX9_kept_48 : decode cX9_kept 48 = .ok (.aload_n 0, 1) := by decide +kernel
theorem dX9_kept_49 : decode cX9_kept 49 = .ok (.getfield 47, 3) := by decide +kernel
theorem dX9_kept_52 : decode cX9_kept 52 = .ok (.aload_n 0, 1) := by decide +kernel
theorem dX9_kept_53 : decode cX9_kept 53 = .ok (.getfield 10, 3) := by decide +kernel
theorem dX9_kept_56 : decode cX9_kept 56 = .ok (.iload_n 1, 1) := by decide +kernel
theorem dX9_kept_57 : decode cX9_kept 57 = .ok (.iload_n 2, 1) := by decide +kernel
theorem dX9_kept_58 : decode cX9_kept 58 = .ok (.invokevirtual 173, 3) := by decide +kernel
theorem dX9_kept_61 : decode cX9_kept 61 = .ok (.ireturn, 1) := by decide +kernel
theorem dX9_count_0 : decode cX9_count 0 = .ok (.aload_n 0, 1) := by decide +kernel
theorem dX9_count_1 : decode cX9_count 1 = .ok (.getfield 10, 3) := by decide +kernel
theorem dX9_count_4 : decode cX9_count 4 = .ok (.getfield 137, 3) := by decide +kernel
theorem dX9_count_7 : decode cX9_count 7 = .ok (.iload_n 1, 1) := by decide +kernel
theorem dX9_count_8 : decode cX9_count 8 = .ok (.invokevirtual 146, 3) := by decide +kernel
theorem dX9_count_11 : decode cX9_count 11 = .ok (.ifCond .eq 22, 3) := by decide +kernel
theorem dX9_count_14 : decode cX9_count 14 = .ok (.iload_n 2, 1) := by decide +kernel
theorem dX9_count_15 : decode cX9_count 15 = .ok (.invokestatic 126, 3) := by decide +kernel
theorem dX9_count_18 : decode cX9_count 18 = .ok (.ifCond .eq 15, 3) := by decide +kernel
theorem dX9_count_21 : decode cX9_count 21 = .ok (.iload_n 3, 1) := by decide +kernel
theorem dX9_count_22 : decode cX9_count 22 = .ok (.invokestatic 126, 3) := by decide +kernel
theorem dX9_count_25 : decode cX9_count 25 = .ok (.ifCond .eq 8, 3) := by decide +kernel
theorem dX9_count_28 : decode cX9_count 28 = .ok (.iload_n 3, 1) := by decide +kernel
theorem dX9_count_29 : decode cX9_count 29 = .ok (.iload_n 2, 1) := by decide +kernel
theorem dX9_count_30 : decode cX9_count 30 = .ok (.if_icmp .ge 9, 3) := by decide +kernel
theorem dX9_count_33 : decode cX9_count 33 = .ok (.aload_n 0, 1) := by decide +kernel
theorem dX9_count_34 : decode cX9_count 34 = .ok (.iconst 0, 1) := by decide +kernel
theorem dX9_count_35 : decode cX9_count 35 = .ok (.invokevirtual 58, 3) := by decide +kernel
theorem dX9_count_38 : decode cX9_count 38 = .ok (.ireturn, 1) := by decide +kernel
theorem dX9_count_39 : decode cX9_count 39 = .ok (.iload 4, 2) := by decide +kernel
theorem dX9_count_41 : decode cX9_count 41 = .ok (.ifCond .lt 9, 3) := by decide +kernel
theorem dX9_count_44 : decode cX9_count 44 = .ok (.iload 4, 2) := by decide +kernel
theorem dX9_count_46 : decode cX9_count 46 = .ok (.iconst 3, 1) := by decide +kernel
theorem dX9_count_47 : decode cX9_count 47 = .ok (.if_icmp .le 9, 3) := by decide +kernel
theorem dX9_count_50 : decode cX9_count 50 = .ok (.aload_n 0, 1) := by decide +kernel
theorem dX9_count_51 : decode cX9_count 51 = .ok (.iconst 0, 1) := by decide +kernel
theorem dX9_count_52 : decode cX9_count 52 = .ok (.invokevirtual 58, 3) := by decide +kernel
theorem dX9_count_55 : decode cX9_count 55 = .ok (.ireturn, 1) := by decide +kernel
theorem dX9_count_56 : decode cX9_count 56 = .ok (.iconst 0, 1) := by decide +kernel
theorem dX9_count_57 : decode cX9_count 57 = .ok (.istore 5, 2) := by decide +kernel
theorem dX9_count_59 : decode cX9_count 59 = .ok (.iload_n 2, 1) := by decide +kernel
theorem dX9_count_60 : decode cX9_count 60 = .ok (.istore 6, 2) := by decide +kernel
theorem dX9_count_62 : decode cX9_count 62 = .ok (.iload 6, 2) := by decide +kernel
theorem dX9_count_64 : decode cX9_count 64 = .ok (.iload_n 3, 1) := by decide +kernel
theorem dX9_count_65 : decode cX9_count 65 = .ok (.if_icmp .gt 47, 3) := by decide +kernel
theorem dX9_count_68 : decode cX9_count 68 = .ok (.aload_n 0, 1) := by decide +kernel
theorem dX9_count_69 : decode cX9_count 69 = .ok (.getfield 10, 3) := by decide +kernel
theorem dX9_count_72 : decode cX9_count 72 = .ok (.getfield 137, 3) := by decide +kernel
theorem dX9_count_75 : decode cX9_count 75 = .ok (.iload_n 1, 1) := by decide +kernel
theorem dX9_count_76 : decode cX9_count 76 = .ok (.iload 6, 2) := by decide +kernel
theorem dX9_count_78 : decode cX9_count 78 = .ok (.invokevirtual 170, 3) := by decide +kernel
theorem dX9_count_81 : decode cX9_count 81 = .ok (.ifCond .eq 25, 3) := by decide +kernel
theorem dX9_count_84 : decode cX9_count 84 = .ok (.aload_n 0, 1) := by decide +kernel
theorem dX9_count_85 : decode cX9_count 85 = .ok (.getfield 47, 3) := by decide +kernel
theorem dX9_count_88 : decode cX9_count 88 = .ok (.aload_n 0, 1) := by decide +kernel
theorem dX9_count_89 : decode cX9_count 89 = .ok (.getfield 10, 3) := by decide +kernel
theorem dX9_count_92 : decode cX9_count 92 = .ok (.iload_n 1, 1) := by decide +kernel
theorem dX9_count_93 : decode cX9_count 93 = .ok (.iload 6, 2) := by decide +kernel
theorem dX9_count_95 : decode cX9_count 95 = .ok (.invokevirtual 173, 3) := by decide +kernel
theorem dX9_count_98 : decode cX9_count 98 = .ok (.iload 4, 2) := by decide +kernel
theorem dX9_count_100 : decode cX9_count 100 = .ok (.if_icmp .ne 6, 3) := by decide +kernel
theorem dX9_count_103 : decode cX9_count 103 = .ok (.iinc 5 1, 3) := by decide +kernel
theorem dX9_count_106 : decode cX9_count 106 = .ok (.iinc 6 1, 3) := by decide +kernel
theorem dX9_count_109 : decode cX9_count 109 = .ok (.goto (-47), 3) := by decide +kernel
theorem dX9_count_112 : decode cX9_count 112 = .ok (.iload 5, 2) := by decide +kernel
theorem dX9_count_114 : decode cX9_count 114 = .ok (.ireturn, 1) := by decide +kernel
theorem dX9_breach_0 : decode cX9_breach 0 = .ok (.iload_n 1, 1) := by decide +kernel
theorem dX9_breach_1 : decode cX9_breach 1 = .ok (.invokestatic 83, 3) := by decide +kernel
theorem dX9_breach_4 : decode cX9_breach 4 = .ok (.ifCond .eq 10, 3) := by decide +kernel
theorem dX9_breach_7 : decode cX9_breach 7 = .ok (.iload_n 2, 1) := by decide +kernel
theorem dX9_breach_8 : decode cX9_breach 8 = .ok (.invokestatic 126, 3) := by decide +kernel
theorem dX9_breach_11 : decode cX9_breach 11 = .ok (.ifCond .ne 9, 3) := by decide +kernel
theorem dX9_breach_14 : decode cX9_breach 14 = .ok (.aload_n 0, 1) := by decide +kernel
theorem dX9_breach_15 : decode cX9_breach 15 = .ok (.iconst 0, 1) := by decide +kernel
theorem dX9_breach_16 : decode cX9_breach 16 = .ok (.invokevirtual 58, 3) := by decide +kernel
theorem dX9_breach_19 : decode cX9_breach 19 = .ok (.ireturn, 1) := by decide +kernel
theorem dX9_breach_20 : decode cX9_breach 20 = .ok (.iload_n 2, 1) := by decide +kernel
theorem dX9_breach_21 : decode cX9_breach 21 = .ok (.istore_n 3, 1) := by decide +kernel
theorem dX9_breach_22 : decode cX9_breach 22 = .ok (.iload_n 3, 1) := by decide +kernel
theorem dX9_breach_23 : decode cX9_breach 23 = .ok (.bipush 30, 2) := by decide +kernel
theorem dX9_breach_25 : decode cX9_breach 25 = .ok (.if_icmp .ge 20, 3) := by decide +kernel
theorem dX9_breach_28 : decode cX9_breach 28 = .ok (.aload_n 0, 1) := by decide +kernel
theorem dX9_breach_29 : decode cX9_breach 29 = .ok (.iload_n 1, 1) := by decide +kernel
theorem dX9_breach_30 : decode cX9_breach 30 = .ok (.iload_n 3, 1) := by decide +kernel
theorem dX9_breach_31 : decode cX9_breach 31 = .ok (.invokevirtual 177, 3) := by decide +kernel
theorem dX9_breach_34 : decode cX9_breach 34 = .ok (.ifCond .eq 5, 3) := by decide +kernel
theorem dX9_breach_37 : decode cX9_breach 37 = .ok (.iload_n 3, 1) := by decide +kernel
theorem dX9_breach_38 : decode cX9_breach 38 = .ok (.ireturn, 1) := by decide +kernel
theorem dX9_breach_39 : decode cX9_breach 39 = .ok (.iinc 3 1, 3) := by decide +kernel
theorem dX9_breach_42 : decode cX9_breach 42 = .ok (.goto (-20), 3) := by decide +kernel
theorem dX9_breach_45 : decode cX9_breach 45 = .ok (.aload_n 0, 1) := by decide +kernel
theorem dX9_breach_46 : decode cX9_breach 46 = .ok (.iconst 3, 1) := by decide +kernel
theorem dX9_breach_47 : decode cX9_breach 47 = .ok (.invokevirtual 58, 3) := by decide +kernel
theorem dX9_breach_50 : decode cX9_breach 50 = .ok (.ireturn, 1) := by decide +kernel
theorem dX9_way_0 : decode cX9_way 0 = .ok (.iload_n 1, 1) := by decide +kernel
theorem dX9_way_1 : decode cX9_way 1 = .ok (.invokestatic 83, 3) := by decide +kernel
theorem dX9_way_4 : decode cX9_way 4 = .ok (.ifCond .eq 10, 3) := by decide +kernel
theorem dX9_way_7 : decode cX9_way 7 = .ok (.iload_n 2, 1) := by decide +kernel
theorem dX9_way_8 : decode cX9_way 8 = .ok (.invokestatic 126, 3) := by decide +kernel
theorem dX9_way_11 : decode cX9_way 11 = .ok (.ifCond .ne 9, 3) := by decide +kernel
theorem dX9_way_14 : decode cX9_way 14 = .ok (.aload_n 0, 1) := by decide +kernel
theorem dX9_way_15 : decode cX9_way 15 = .ok (.iconst 0, 1) := by decide +kernel
theorem dX9_way_16 : decode cX9_way 16 = .ok (.invokevirtual 58, 3) := by decide +kernel
theorem dX9_way_19 : decode cX9_way 19 = .ok (.ireturn, 1) := by decide +kernel
theorem dX9_way_20 : decode cX9_way 20 = .ok (.aload_n 0, 1) := by decide +kernel
theorem dX9_way_21 : decode cX9_way 21 = .ok (.iload_n 1, 1) := by decide +kernel
theorem dX9_way_22 : decode cX9_way 22 = .ok (.iload_n 2, 1) := by decide +kernel
theorem dX9_way_23 : decode cX9_way 23 = .ok (.aload_n 0, 1) := by decide +kernel
theorem dX9_way_24 : decode cX9_way 24 = .ok (.getfield 10, 3) := by decide +kernel
theorem dX9_way_27 : decode cX9_way 27 = .ok (.getfield 137, 3) := by decide +kernel
theorem dX9_way_30 : decode cX9_way 30 = .ok (.iload_n 1, 1) := by decide +kernel
theorem dX9_way_31 : decode cX9_way 31 = .ok (.iload_n 2, 1) := by decide +kernel
theorem dX9_way_32 : decode cX9_way 32 = .ok (.invokevirtual 167, 3) := by decide +kernel
theorem dX9_way_35 : decode cX9_way 35 = .ok (.invokevirtual 180, 3) := by decide +kernel
theorem dX9_way_38 : decode cX9_way 38 = .ok (.ifCond .ne 9, 3) := by decide +kernel
theorem dX9_way_41 : decode cX9_way 41 = .ok (.aload_n 0, 1) := by decide +kernel
theorem dX9_way_42 : decode cX9_way 42 = .ok (.iconst 3, 1) := by decide +kernel
theorem dX9_way_43 : decode cX9_way 43 = .ok (.invokevirtual 58, 3) := by decide +kernel
theorem dX9_way_46 : decode cX9_way 46 = .ok (.ireturn, 1) := by decide +kernel
theorem dX9_way_47 : decode cX9_way 47 = .ok (.aload_n 0, 1) := by decide +kernel
theorem dX9_way_48 : decode cX9_way 48 = .ok (.getfield 40, 3) := by decide +kernel
theorem dX9_way_51 : decode cX9_way 51 = .ok (.invokevirtual 184, 3) := by decide +kernel
theorem dX9_way_54 : decode cX9_way 54 = .ok (.aload_n 0, 1) := by decide +kernel
theorem dX9_way_55 : decode cX9_way 55 = .ok (.iconst 1, 1) := by decide +kernel
theorem dX9_way_56 : decode cX9_way 56 = .ok (.putfield 187, 3) := by decide +kernel
theorem dX9_way_59 : decode cX9_way 59 = .ok (.aload_n 0, 1) := by decide +kernel
theorem dX9_way_60 : decode cX9_way 60 = .ok (.getfield 40, 3) := by decide +kernel
theorem dX9_way_63 : decode cX9_way 63 = .ok (.aload_n 0, 1) := by decide +kernel
theorem dX9_way_64 : decode cX9_way 64 = .ok (.getfield 51, 3) := by decide +kernel
theorem dX9_way_67 : decode cX9_way 67 = .ok (.invokevirtual 191, 3) := by decide +kernel
theorem dX9_way_70 : decode cX9_way 70 = .ok (.ireturn, 1) := by decide +kernel
theorem dX9_at_0 : decode cX9_at 0 = .ok (.iload_n 1, 1) := by decide +kernel
theorem dX9_at_1 : decode cX9_at 1 = .ok (.ifCond .lt 9, 3) := by decide +kernel
theorem dX9_at_4 : decode cX9_at 4 = .ok (.iload_n 1, 1) := by decide +kernel
theorem dX9_at_5 : decode cX9_at 5 = .ok (.bipush 24, 2) := by decide +kernel
theorem dX9_at_7 : decode cX9_at 7 = .ok (.if_icmp .lt 9, 3) := by decide +kernel
theorem dX9_at_10 : decode cX9_at 10 = .ok (.aload_n 0, 1) := by decide +kernel
theorem dX9_at_11 : decode cX9_at 11 = .ok (.iconst 0, 1) := by decide +kernel
theorem dX9_at_12 : decode cX9_at 12 = .ok (.invokevirtual 58, 3) := by decide +kernel
theorem dX9_at_15 : decode cX9_at 15 = .ok (.ireturn, 1) := by decide +kernel
theorem dX9_at_16 : decode cX9_at 16 = .ok (.aload_n 0, 1) := by decide +kernel
theorem dX9_at_17 : decode cX9_at 17 = .ok (.getfield 187, 3) := by decide +kernel
theorem dX9_at_20 : decode cX9_at 20 = .ok (.ifCond .eq 12, 3) := by decide +kernel
theorem dX9_at_23 : decode cX9_at 23 = .ok (.aload_n 0, 1) := by decide +kernel
theorem dX9_at_24 : decode cX9_at 24 = .ok (.getfield 51, 3) := by decide +kernel
theorem dX9_at_27 : decode cX9_at 27 = .ok (.iload_n 1, 1) := by decide +kernel
theorem dX9_at_28 : decode cX9_at 28 = .ok (.iaload, 1) := by decide +kernel
theorem dX9_at_29 : decode cX9_at 29 = .ok (.goto 8, 3) := by decide +kernel
theorem dX9_at_32 : decode cX9_at 32 = .ok (.aload_n 0, 1) := by decide +kernel
theorem dX9_at_33 : decode cX9_at 33 = .ok (.iconst 3, 1) := by decide +kernel
theorem dX9_at_34 : decode cX9_at 34 = .ok (.invokevirtual 58, 3) := by decide +kernel
theorem dX9_at_37 : decode cX9_at 37 = .ok (.ireturn, 1) := by decide +kernel
theorem dX9_may_0 : decode cX9_may 0 = .ok (.iload_n 1, 1) := by decide +kernel
theorem dX9_may_1 : decode cX9_may 1 = .ok (.invokestatic 83, 3) := by decide +kernel
theorem dX9_may_4 : decode cX9_may 4 = .ok (.ifCond .eq 10, 3) := by decide +kernel
theorem dX9_may_7 : decode cX9_may 7 = .ok (.iload_n 2, 1) := by decide +kernel
theorem dX9_may_8 : decode cX9_may 8 = .ok (.invokestatic 86, 3) := by decide +kernel
theorem dX9_may_11 : decode cX9_may 11 = .ok (.ifCond .ne 9, 3) := by decide +kernel
theorem dX9_may_14 : decode cX9_may 14 = .ok (.aload_n 0, 1) := by decide +kernel
theorem dX9_may_15 : decode cX9_may 15 = .ok (.iconst 0, 1) := by decide +kernel
theorem dX9_may_16 : decode cX9_may 16 = .ok (.invokevirtual 58, 3) := by decide +kernel
theorem dX9_may_19 : decode cX9_may 19 = .ok (.ireturn, 1) := by decide +kernel
theorem dX9_may_20 : decode cX9_may 20 = .ok (.aload_n 0, 1) := by decide +kernel
theorem dX9_may_21 : decode cX9_may 21 = .ok (.iload_n 1, 1) := by decide +kernel
theorem dX9_may_22 : decode cX9_may 22 = .ok (.iload_n 2, 1) := by decide +kernel
theorem dX9_may_23 : decode cX9_may 23 = .ok (.aload_n 0, 1) := by decide +kernel
theorem dX9_may_24 : decode cX9_may 24 = .ok (.getfield 10, 3) := by decide +kernel
theorem dX9_may_27 : decode cX9_may 27 = .ok (.getfield 137, 3) := by decide +kernel
theorem dX9_may_30 : decode cX9_may 30 = .ok (.iload_n 1, 1) := by decide +kernel
theorem dX9_may_31 : decode cX9_may 31 = .ok (.iload_n 2, 1) := by decide +kernel
theorem dX9_may_32 : decode cX9_may 32 = .ok (.invokestatic 99, 3) := by decide +kernel
theorem dX9_may_35 : decode cX9_may 35 = .ok (.invokevirtual 167, 3) := by decide +kernel
theorem dX9_may_38 : decode cX9_may 38 = .ok (.invokevirtual 123, 3) := by decide +kernel
theorem dX9_may_41 : decode cX9_may 41 = .ok (.ireturn, 1) := by decide +kernel
theorem dX9_ways_0 : decode cX9_ways 0 = .ok (.iload_n 1, 1) := by decide +kernel
theorem dX9_ways_1 : decode cX9_ways 1 = .ok (.invokestatic 83, 3) := by decide +kernel
theorem dX9_ways_4 : decode cX9_ways 4 = .ok (.ifCond .eq 10, 3) := by decide +kernel
theorem dX9_ways_7 : decode cX9_ways 7 = .ok (.iload_n 2, 1) := by decide +kernel
theorem dX9_ways_8 : decode cX9_ways 8 = .ok (.invokestatic 126, 3) := by decide +kernel
theorem dX9_ways_11 : decode cX9_ways 11 = .ok (.ifCond .ne 9, 3) := by decide +kernel
theorem dX9_ways_14 : decode cX9_ways 14 = .ok (.aload_n 0, 1) := by decide +kernel
theorem dX9_ways_15 : decode cX9_ways 15 = .ok (.iconst 0, 1) := by decide +kernel
theorem dX9_ways_16 : decode cX9_ways 16 = .ok (.invokevirtual 58, 3) := by decide +kernel
theorem dX9_ways_19 : decode cX9_ways 19 = .ok (.ireturn, 1) := by decide +kernel
theorem dX9_ways_20 : decode cX9_ways 20 = .ok (.aload_n 0, 1) := by decide +kernel
theorem dX9_ways_21 : decode cX9_ways 21 = .ok (.iload_n 1, 1) := by decide +kernel
theorem dX9_ways_22 : decode cX9_ways 22 = .ok (.iload_n 2, 1) := by decide +kernel
theorem dX9_ways_23 : decode cX9_ways 23 = .ok (.aload_n 0, 1) := by decide +kernel
theorem dX9_ways_24 : decode cX9_ways 24 = .ok (.getfield 10, 3) := by decide +kernel
theorem dX9_ways_27 : decode cX9_ways 27 = .ok (.getfield 137, 3) := by decide +kernel
theorem dX9_ways_30 : decode cX9_ways 30 = .ok (.iload_n 1, 1) := by decide +kernel
theorem dX9_ways_31 : decode cX9_ways 31 = .ok (.iload_n 2, 1) := by decide +kernel
theorem dX9_ways_32 : decode cX9_ways 32 = .ok (.invokevirtual 167, 3) := by decide +kernel
theorem dX9_ways_35 : decode cX9_ways 35 = .ok (.invokevirtual 180, 3) := by decide +kernel
theorem dX9_ways_38 : decode cX9_ways 38 = .ok (.ifCond .eq 13, 3) := by decide +kernel
theorem dX9_ways_41 : decode cX9_ways 41 = .ok (.aload_n 0, 1) := by decide +kernel
theorem dX9_ways_42 : decode cX9_ways 42 = .ok (.getfield 40, 3) := by decide +kernel
theorem dX9_ways_45 : decode cX9_ways 45 = .ok (.invokevirtual 195, 3) := by decide +kernel
theorem dX9_ways_48 : decode cX9_ways 48 = .ok (.goto 4, 3) := by decide +kernel
theorem dX9_ways_51 : decode cX9_ways 51 = .ok (.iconst 0, 1) := by decide +kernel
theorem dX9_ways_52 : decode cX9_ways 52 = .ok (.ireturn, 1) := by decide +kernel
theorem dX9_bars_0 : decode cX9_bars 0 = .ok (.iload_n 1, 1) := by decide +kernel
theorem dX9_bars_1 : decode cX9_bars 1 = .ok (.invokestatic 83, 3) := by decide +kernel
theorem dX9_bars_4 : decode cX9_bars 4 = .ok (.ifCond .eq 10, 3) := by decide +kernel
theorem dX9_bars_7 : decode cX9_bars 7 = .ok (.iload_n 2, 1) := by decide +kernel
theorem dX9_bars_8 : decode cX9_bars 8 = .ok (.invokestatic 126, 3) := by decide +kernel
theorem dX9_bars_11 : decode cX9_bars 11 = .ok (.ifCond .ne 9, 3) := by decide +kernel
theorem dX9_bars_14 : decode cX9_bars 14 = .ok (.aload_n 0, 1) := by decide +kernel
theorem dX9_bars_15 : decode cX9_bars 15 = .ok (.iconst 0, 1) := by decide +kernel
theorem dX9_bars_16 : decode cX9_bars 16 = .ok (.invokevirtual 58, 3) := by decide +kernel
theorem dX9_bars_19 : decode cX9_bars 19 = .ok (.ireturn, 1) := by decide +kernel
theorem dX9_bars_20 : decode cX9_bars 20 = .ok (.aload_n 0, 1) := by decide +kernel
theorem dX9_bars_21 : decode cX9_bars 21 = .ok (.getfield 10, 3) := by decide +kernel
theorem dX9_bars_24 : decode cX9_bars 24 = .ok (.getfield 137, 3) := by decide +kernel
theorem dX9_bars_27 : decode cX9_bars 27 = .ok (.iload_n 1, 1) := by decide +kernel
theorem dX9_bars_28 : decode cX9_bars 28 = .ok (.iload_n 2, 1) := by decide +kernel
theorem dX9_bars_29 : decode cX9_bars 29 = .ok (.invokevirtual 167, 3) := by decide +kernel
theorem dX9_bars_32 : decode cX9_bars 32 = .ok (.istore_n 3, 1) := by decide +kernel
theorem dX9_bars_33 : decode cX9_bars 33 = .ok (.aload_n 0, 1) := by decide +kernel
theorem dX9_bars_34 : decode cX9_bars 34 = .ok (.iload_n 1, 1) := by decide +kernel
theorem dX9_bars_35 : decode cX9_bars 35 = .ok (.iload_n 2, 1) := by decide +kernel
theorem dX9_bars_36 : decode cX9_bars 36 = .ok (.iload_n 3, 1) := by decide +kernel
theorem dX9_bars_37 : decode cX9_bars 37 = .ok (.invokevirtual 180, 3) := by decide +kernel
theorem dX9_bars_40 : decode cX9_bars 40 = .ok (.ifCond .eq 9, 3) := by decide +kernel
theorem dX9_bars_43 : decode cX9_bars 43 = .ok (.aload_n 0, 1) := by decide +kernel
theorem dX9_bars_44 : decode cX9_bars 44 = .ok (.iconst 3, 1) := by decide +kernel
theorem dX9_bars_45 : decode cX9_bars 45 = .ok (.invokevirtual 58, 3) := by decide +kernel
theorem dX9_bars_48 : decode cX9_bars 48 = .ok (.ireturn, 1) := by decide +kernel
theorem dX9_bars_49 : decode cX9_bars 49 = .ok (.iconst 0, 1) := by decide +kernel
theorem dX9_bars_50 : decode cX9_bars 50 = .ok (.istore 4, 2) := by decide +kernel
theorem dX9_bars_52 : decode cX9_bars 52 = .ok (.iload 4, 2) := by decide +kernel
theorem dX9_bars_54 : decode cX9_bars 54 = .ok (.bipush 12, 2) := by decide +kernel
theorem dX9_bars_56 : decode cX9_bars 56 = .ok (.if_icmp .ge 38, 3) := by decide +kernel
theorem dX9_bars_59 : decode cX9_bars 59 = .ok (.iload_n 3, 1) := by decide +kernel
theorem dX9_bars_60 : decode cX9_bars 60 = .ok (.iload 4, 2) := by decide +kernel
theorem dX9_bars_62 : decode cX9_bars 62 = .ok (.invokestatic 198, 3) := by decide +kernel
theorem dX9_bars_65 : decode cX9_bars 65 = .ok (.ifCond .eq 23, 3) := by decide +kernel
theorem dX9_bars_68 : decode cX9_bars 68 = .ok (.aload_n 0, 1) := by decide +kernel
theorem dX9_bars_69 : decode cX9_bars 69 = .ok (.iload_n 1, 1) := by decide +kernel
theorem dX9_bars_70 : decode cX9_bars 70 = .ok (.iload_n 2, 1) := by decide +kernel
theorem dX9_bars_71 : decode cX9_bars 71 = .ok (.iload_n 3, 1) := by decide +kernel
theorem dX9_bars_72 : decode cX9_bars 72 = .ok (.iconst 1, 1) := by decide +kernel
theorem dX9_bars_73 : decode cX9_bars 73 = .ok (.iload 4, 2) := by decide +kernel
theorem dX9_bars_75 : decode cX9_bars 75 = .ok (.ishl, 1) := by decide +kernel
theorem dX9_bars_76 : decode cX9_bars 76 = .ok (.iconst (-1), 1) := by decide +kernel
theorem dX9_bars_77 : decode cX9_bars 77 = .ok (.ixor, 1) := by decide +kernel
theorem dX9_bars_78 : decode cX9_bars 78 = .ok (.iand, 1) := by decide +kernel
theorem dX9_bars_79 : decode cX9_bars 79 = .ok (.invokevirtual 180, 3) := by decide +kernel
theorem dX9_bars_82 : decode cX9_bars 82 = .ok (.ifCond .eq 6, 3) := by decide +kernel
theorem dX9_bars_85 : decode cX9_bars 85 = .ok (.iload 4, 2) := by decide +kernel
theorem dX9_bars_87 : decode cX9_bars 87 = .ok (.ireturn, 1) := by decide +kernel
theorem dX9_bars_88 : decode cX9_bars 88 = .ok (.iinc 4 1, 3) := by decide +kernel
theorem dX9_bars_91 : decode cX9_bars 91 = .ok (.goto (-39), 3) := by decide +kernel
theorem dX9_bars_94 : decode cX9_bars 94 = .ok (.aload_n 0, 1) := by decide +kernel
theorem dX9_bars_95 : decode cX9_bars 95 = .ok (.iconst 3, 1) := by decide +kernel
theorem dX9_bars_96 : decode cX9_bars 96 = .ok (.invokevirtual 58, 3) := by decide +kernel
theorem dX9_bars_99 : decode cX9_bars 99 = .ok (.ireturn, 1) := by decide +kernel
theorem dX9_risk_0 : decode cX9_risk 0 = .ok (.iload_n 1, 1) := by decide +kernel
theorem dX9_risk_1 : decode cX9_risk 1 = .ok (.iload_n 2, 1) := by decide +kernel
theorem dX9_risk_2 : decode cX9_risk 2 = .ok (.invokestatic 201, 3) := by decide +kernel
theorem dX9_risk_5 : decode cX9_risk 5 = .ok (.ifCond .eq 24, 3) := by decide +kernel
theorem dX9_risk_8 : decode cX9_risk 8 = .ok (.iload_n 3, 1) := by decide +kernel
theorem dX9_risk_9 : decode cX9_risk 9 = .ok (.ifCond .lt 20, 3) := by decide +kernel
theorem dX9_risk_12 : decode cX9_risk 12 = .ok (.iload_n 3, 1) := by decide +kernel
theorem dX9_risk_13 : decode cX9_risk 13 = .ok (.bipush 9, 2) := by decide +kernel
theorem dX9_risk_15 : decode cX9_risk 15 = .ok (.if_icmp .gt 14, 3) := by decide +kernel
theorem dX9_risk_18 : decode cX9_risk 18 = .ok (.iload 4, 2) := by decide +kernel
theorem dX9_risk_20 : decode cX9_risk 20 = .ok (.ifCond .lt 9, 3) := by decide +kernel
theorem dX9_risk_23 : decode cX9_risk 23 = .ok (.iload 4, 2) := by decide +kernel
theorem dX9_risk_25 : decode cX9_risk 25 = .ok (.iconst 1, 1) := by decide +kernel
theorem dX9_risk_26 : decode cX9_risk 26 = .ok (.if_icmp .le 9, 3) := by decide +kernel
theorem dX9_risk_29 : decode cX9_risk 29 = .ok (.aload_n 0, 1) := by decide +kernel
theorem dX9_risk_30 : decode cX9_risk 30 = .ok (.iconst 0, 1) := by decide +kernel
theorem dX9_risk_31 : decode cX9_risk 31 = .ok (.invokevirtual 58, 3) := by decide +kernel
theorem dX9_risk_34 : decode cX9_risk 34 = .ok (.ireturn, 1) := by decide +kernel
theorem dX9_risk_35 : decode cX9_risk 35 = .ok (.iload_n 1, 1) := by decide +kernel
theorem dX9_risk_36 : decode cX9_risk 36 = .ok (.iload_n 2, 1) := by decide +kernel
theorem dX9_risk_37 : decode cX9_risk 37 = .ok (.iload_n 3, 1) := by decide +kernel
theorem dX9_risk_38 : decode cX9_risk 38 = .ok (.invokestatic 204, 3) := by decide +kernel
theorem dX9_risk_41 : decode cX9_risk 41 = .ok (.lstore 5, 2) := by decide +kernel
theorem dX9_risk_43 : decode cX9_risk 43 = .ok (.bipush 10, 2) := by decide +kernel
theorem dX9_risk_45 : decode cX9_risk 45 = .ok (.iload_n 2, 1) := by decide +kernel
theorem dX9_risk_46 : decode cX9_risk 46 = .ok (.invokestatic 208, 3) := by decide +kernel
theorem dX9_risk_49 : decode cX9_risk 49 = .ok (.lstore 7, 2) := by decide +kernel
theorem dX9_risk_51 : decode cX9_risk 51 = .ok (.lload 5, 2) := by decide +kernel
theorem dX9_risk_53 : decode cX9_risk 53 = .ok (.lload 7, 2) := by decide +kernel
theorem dX9_risk_55 : decode cX9_risk 55 = .ok (.invokestatic 212, 3) := by decide +kernel
theorem dX9_risk_58 : decode cX9_risk 58 = .ok (.lstore 9, 2) := by decide +kernel
theorem dX9_risk_60 : decode cX9_risk 60 = .ok (.lload 9, 2) := by decide +kernel
theorem dX9_risk_62 : decode cX9_risk 62 = .ok (.lconst 1, 1) := by decide +kernel
theorem dX9_risk_63 : decode cX9_risk 63 = .ok (.lcmp, 1) := by decide +kernel
theorem dX9_risk_64 : decode cX9_risk 64 = .ok (.ifCond .ge 5, 3) := by decide +kernel
theorem dX9_risk_67 : decode cX9_risk 67 = .ok (.iconst 0, 1) := by decide +kernel
theorem dX9_risk_68 : decode cX9_risk 68 = .ok (.ireturn, 1) := by decide +kernel
theorem dX9_risk_69 : decode cX9_risk 69 = .ok (.iload 4, 2) := by decide +kernel
theorem dX9_risk_71 : decode cX9_risk 71 = .ok (.ifCond .ne 8, 3) := by decide +kernel
theorem dX9_risk_74 : decode cX9_risk 74 = .ok (.lload 5, 2) := by decide +kernel
theorem dX9_risk_76 : decode cX9_risk 76 = .ok (.goto 5, 3) := by decide +kernel
theorem dX9_risk_79 : decode cX9_risk 79 = .ok (.lload 7, 2) := by decide +kernel
theorem dX9_risk_81 : decode cX9_risk 81 = .ok (.lload 9, 2) := by decide +kernel
theorem dX9_risk_83 : decode cX9_risk 83 = .ok (.ldiv, 1) := by decide +kernel
theorem dX9_risk_84 : decode cX9_risk 84 = .ok (.l2i, 1) := by decide +kernel
theorem dX9_risk_85 : decode cX9_risk 85 = .ok (.ireturn, 1) := by decide +kernel
theorem dX9_strict_0 : decode cX9_strict 0 = .ok (.iload_n 1, 1) := by decide +kernel
theorem dX9_strict_1 : decode cX9_strict 1 = .ok (.iload_n 2, 1) := by decide +kernel
theorem dX9_strict_2 : decode cX9_strict 2 = .ok (.invokestatic 201, 3) := by decide +kernel
theorem dX9_strict_5 : decode cX9_strict 5 = .ok (.ifCond .eq 13, 3) := by decide +kernel
theorem dX9_strict_8 : decode cX9_strict 8 = .ok (.iload_n 3, 1) := by decide +kernel
theorem dX9_strict_9 : decode cX9_strict 9 = .ok (.ifCond .lt 9, 3) := by decide +kernel
theorem dX9_strict_12 : decode cX9_strict 12 = .ok (.iload_n 3, 1) := by decide +kernel
theorem dX9_strict_13 : decode cX9_strict 13 = .ok (.bipush 100, 2) := by decide +kernel
theorem dX9_strict_15 : decode cX9_strict 15 = .ok (.if_icmp .le 9, 3) := by decide +kernel
theorem dX9_strict_18 : decode cX9_strict 18 = .ok (.aload_n 0, 1) := by decide +kernel
theorem dX9_strict_19 : decode cX9_strict 19 = .ok (.iconst 0, 1) := by decide +kernel
theorem dX9_strict_20 : decode cX9_strict 20 = .ok (.invokevirtual 58, 3) := by decide +kernel
theorem dX9_strict_23 : decode cX9_strict 23 = .ok (.ireturn, 1) := by decide +kernel
theorem dX9_strict_24 : decode cX9_strict 24 = .ok (.iconst 1, 1) := by decide +kernel
theorem dX9_strict_25 : decode cX9_strict 25 = .ok (.istore 4, 2) := by decide +kernel
theorem dX9_strict_27 : decode cX9_strict 27 = .ok (.iload 4, 2) := by decide +kernel
theorem dX9_strict_29 : decode cX9_strict 29 = .ok (.bipush 9, 2) := by decide +kernel
theorem dX9_strict_31 : decode cX9_strict 31 = .ok (.if_icmp .gt 36, 3) := by decide +kernel
theorem dX9_strict_34 : decode cX9_strict 34 = .ok (.iload_n 1, 1) := by decide +kernel
theorem dX9_strict_35 : decode cX9_strict 35 = .ok (.iload_n 2, 1) := by decide +kernel
theorem dX9_strict_36 : decode cX9_strict 36 = .ok (.iload 4, 2) := by decide +kernel
theorem dX9_strict_38 : decode cX9_strict 38 = .ok (.invokestatic 204, 3) := by decide +kernel
theorem dX9_strict_41 : decode cX9_strict 41 = .ok (.ldc2_w 216, 3) := by decide +kernel
theorem dX9_strict_44 : decode cX9_strict 44 = .ok (.lmul, 1) := by decide +kernel
theorem dX9_strict_45 : decode cX9_strict 45 = .ok (.iload_n 3, 1) := by decide +kernel
theorem dX9_strict_46 : decode cX9_strict 46 = .ok (.i2l, 1) := by decide +kernel
theorem dX9_strict_47 : decode cX9_strict 47 = .ok (.bipush 10, 2) := by decide +kernel
theorem dX9_strict_49 : decode cX9_strict 49 = .ok (.iload_n 2, 1) := by decide +kernel
theorem dX9_strict_50 : decode cX9_strict 50 = .ok (.invokestatic 208, 3) := by decide +kernel
theorem dX9_strict_53 : decode cX9_strict 53 = .ok (.lmul, 1) := by decide +kernel
theorem dX9_strict_54 : decode cX9_strict 54 = .ok (.lcmp, 1) := by decide +kernel
theorem dX9_strict_55 : decode cX9_strict 55 = .ok (.ifCond .gt 6, 3) := by decide +kernel
theorem dX9_strict_58 : decode cX9_strict 58 = .ok (.iload 4, 2) := by decide +kernel
theorem dX9_strict_60 : decode cX9_strict 60 = .ok (.ireturn, 1) := by decide +kernel
theorem dX9_strict_61 : decode cX9_strict 61 = .ok (.iinc 4 1, 3) := by decide +kernel
theorem dX9_strict_64 : decode cX9_strict 64 = .ok (.goto (-37), 3) := by decide +kernel
theorem dX9_strict_67 : decode cX9_strict 67 = .ok (.aload_n 0, 1) := by decide +kernel
theorem dX9_strict_68 : decode cX9_strict 68 = .ok (.iconst 3, 1) := by decide +kernel
theorem dX9_strict_69 : decode cX9_strict 69 = .ok (.invokevirtual 58, 3) := by decide +kernel
theorem dX9_strict_72 : decode cX9_strict 72 = .ok (.ireturn, 1) := by decide +kernel
theorem dX9_surety_0 : decode cX9_surety 0 = .ok (.iload_n 1, 1) := by decide +kernel
theorem dX9_surety_1 : decode cX9_surety 1 = .ok (.invokestatic 218, 3) := by decide +kernel
theorem dX9_surety_4 : decode cX9_surety 4 = .ok (.ifCond .eq 20, 3) := by decide +kernel
theorem dX9_surety_7 : decode cX9_surety 7 = .ok (.iload_n 2, 1) := by decide +kernel
theorem dX9_surety_8 : decode cX9_surety 8 = .ok (.invokestatic 221, 3) := by decide +kernel
theorem dX9_surety_11 : decode cX9_surety 11 = .ok (.ifCond .eq 13, 3) := by decide +kernel
theorem dX9_surety_14 : decode cX9_surety 14 = .ok (.iload_n 3, 1) := by decide +kernel
theorem dX9_surety_15 : decode cX9_surety 15 = .ok (.ifCond .lt 9, 3) := by decide +kernel
theorem dX9_surety_18 : decode cX9_surety 18 = .ok (.iload_n 3, 1) := by decide +kernel
theorem dX9_surety_19 : decode cX9_surety 19 = .ok (.bipush 64, 2) := by decide +kernel
theorem dX9_surety_21 : decode cX9_surety 21 = .ok (.if_icmp .lt 9, 3) := by decide +kernel
theorem dX9_surety_24 : decode cX9_surety 24 = .ok (.aload_n 0, 1) := by decide +kernel
theorem dX9_surety_25 : decode cX9_surety 25 = .ok (.iconst 0, 1) := by decide +kernel
theorem dX9_surety_26 : decode cX9_surety 26 = .ok (.invokevirtual 58, 3) := by decide +kernel
theorem dX9_surety_29 : decode cX9_surety 29 = .ok (.ireturn, 1) := by decide +kernel
theorem dX9_surety_30 : decode cX9_surety 30 = .ok (.aload_n 0, 1) := by decide +kernel
theorem dX9_surety_31 : decode cX9_surety 31 = .ok (.getfield 10, 3) := by decide +kernel
theorem dX9_surety_34 : decode cX9_surety 34 = .ok (.getfield 224, 3) := by decide +kernel
theorem dX9_surety_37 : decode cX9_surety 37 = .ok (.iload_n 1, 1) := by decide +kernel
theorem dX9_surety_38 : decode cX9_surety 38 = .ok (.invokevirtual 228, 3) := by decide +kernel
theorem dX9_surety_41 : decode cX9_surety 41 = .ok (.ifCond .le 9, 3) := by decide +kernel
theorem dX9_surety_44 : decode cX9_surety 44 = .ok (.aload_n 0, 1) := by decide +kernel
theorem dX9_surety_45 : decode cX9_surety 45 = .ok (.iconst 4, 1) := by decide +kernel
theorem dX9_surety_46 : decode cX9_surety 46 = .ok (.invokevirtual 58, 3) := by decide +kernel
theorem dX9_surety_49 : decode cX9_surety 49 = .ok (.ireturn, 1) := by decide +kernel
theorem dX9_surety_50 : decode cX9_surety 50 = .ok (.aload_n 0, 1) := by decide +kernel
theorem dX9_surety_51 : decode cX9_surety 51 = .ok (.getfield 10, 3) := by decide +kernel
theorem dX9_surety_54 : decode cX9_surety 54 = .ok (.getfield 224, 3) := by decide +kernel
theorem dX9_surety_57 : decode cX9_surety 57 = .ok (.iload_n 1, 1) := by decide +kernel
theorem dX9_surety_58 : decode cX9_surety 58 = .ok (.iload_n 2, 1) := by decide +kernel
theorem dX9_surety_59 : decode cX9_surety 59 = .ok (.iload_n 3, 1) := by decide +kernel
theorem dX9_surety_60 : decode cX9_surety 60 = .ok (.invokevirtual 233, 3) := by decide +kernel
theorem dX9_surety_63 : decode cX9_surety 63 = .ok (.iconst 1, 1) := by decide +kernel
theorem dX9_surety_64 : decode cX9_surety 64 = .ok (.ireturn, 1) := by decide +kernel
theorem dX9_bail_0 : decode cX9_bail 0 = .ok (.iload_n 1, 1) := by decide +kernel
theorem dX9_bail_1 : decode cX9_bail 1 = .ok (.invokestatic 83, 3) := by decide +kernel
theorem dX9_bail_4 : decode cX9_bail 4 = .ok (.ifCond .eq 10, 3) := by decide +kernel
theorem dX9_bail_7 : decode cX9_bail 7 = .ok (.iload_n 2, 1) := by decide +kernel
theorem dX9_bail_8 : decode cX9_bail 8 = .ok (.invokestatic 221, 3) := by decide +kernel
theorem dX9_bail_11 : decode cX9_bail 11 = .ok (.ifCond .ne 9, 3) := by decide +kernel
theorem dX9_bail_14 : decode cX9_bail 14 = .ok (.aload_n 0, 1) := by decide +kernel
theorem dX9_bail_15 : decode cX9_bail 15 = .ok (.iconst 0, 1) := by decide +kernel
theorem dX9_bail_16 : decode cX9_bail 16 = .ok (.invokevirtual 58, 3) := by decide +kernel
theorem dX9_bail_19 : decode cX9_bail 19 = .ok (.ireturn, 1) := by decide +kernel
theorem dX9_bail_20 : decode cX9_bail 20 = .ok (.aload_n 0, 1) := by decide +kernel
theorem dX9_bail_21 : decode cX9_bail 21 = .ok (.getfield 10, 3) := by decide +kernel
theorem dX9_bail_24 : decode cX9_bail 24 = .ok (.getfield 224, 3) := by decide +kernel
theorem dX9_bail_27 : decode cX9_bail 27 = .ok (.iload_n 1, 1) := by decide +kernel
theorem dX9_bail_28 : decode cX9_bail 28 = .ok (.invokevirtual 236, 3) := by decide +kernel
theorem dX9_bail_31 : decode cX9_bail 31 = .ok (.ifCond .le 9, 3) := by decide +kernel
theorem dX9_bail_34 : decode cX9_bail 34 = .ok (.aload_n 0, 1) := by decide +kernel
theorem dX9_bail_35 : decode cX9_bail 35 = .ok (.iconst 4, 1) := by decide +kernel
theorem dX9_bail_36 : decode cX9_bail 36 = .ok (.invokevirtual 58, 3) := by decide +kernel
theorem dX9_bail_39 : decode cX9_bail 39 = .ok (.ireturn, 1) := by decide +kernel
theorem dX9_bail_40 : decode cX9_bail 40 = .ok (.aload_n 0, 1) := by decide +kernel
theorem dX9_bail_41 : decode cX9_bail 41 = .ok (.getfield 10, 3) := by decide +kernel
theorem dX9_bail_44 : decode cX9_bail 44 = .ok (.getfield 224, 3) := by decide +kernel
theorem dX9_bail_47 : decode cX9_bail 47 = .ok (.iload_n 1, 1) := by decide +kernel
theorem dX9_bail_48 : decode cX9_bail 48 = .ok (.invokevirtual 239, 3) := by decide +kernel
theorem dX9_bail_51 : decode cX9_bail 51 = .ok (.istore_n 3, 1) := by decide +kernel
theorem dX9_bail_52 : decode cX9_bail 52 = .ok (.aload_n 0, 1) := by decide +kernel
theorem dX9_bail_53 : decode cX9_bail 53 = .ok (.getfield 10, 3) := by decide +kernel
theorem dX9_bail_56 : decode cX9_bail 56 = .ok (.getfield 224, 3) := by decide +kernel
theorem dX9_bail_59 : decode cX9_bail 59 = .ok (.iload_n 1, 1) := by decide +kernel
theorem dX9_bail_60 : decode cX9_bail 60 = .ok (.iload_n 2, 1) := by decide +kernel
theorem dX9_bail_61 : decode cX9_bail 61 = .ok (.invokevirtual 242, 3) := by decide +kernel
theorem dX9_bail_64 : decode cX9_bail 64 = .ok (.iload_n 3, 1) := by decide +kernel
theorem dX9_bail_65 : decode cX9_bail 65 = .ok (.ireturn, 1) := by decide +kernel
theorem dX9_call_0 : decode cX9_call 0 = .ok (.iload_n 1, 1) := by decide +kernel
theorem dX9_call_1 : decode cX9_call 1 = .ok (.invokestatic 83, 3) := by decide +kernel
theorem dX9_call_4 : decode cX9_call 4 = .ok (.ifCond .ne 9, 3) := by decide +kernel
theorem dX9_call_7 : decode cX9_call 7 = .ok (.aload_n 0, 1) := by decide +kernel
theorem dX9_call_8 : decode cX9_call 8 = .ok (.iconst 0, 1) := by decide +kernel
theorem dX9_call_9 : decode cX9_call 9 = .ok (.invokevirtual 58, 3) := by decide +kernel
theorem dX9_call_12 : decode cX9_call 12 = .ok (.ireturn, 1) := by decide +kernel
theorem dX9_call_13 : decode cX9_call 13 = .ok (.aload_n 0, 1) := by decide +kernel
theorem dX9_call_14 : decode cX9_call 14 = .ok (.getfield 10, 3) := by decide +kernel
theorem dX9_call_17 : decode cX9_call 17 = .ok (.getfield 224, 3) := by decide +kernel
theorem dX9_call_20 : decode cX9_call 20 = .ok (.iload_n 1, 1) := by decide +kernel
theorem dX9_call_21 : decode cX9_call 21 = .ok (.invokevirtual 236, 3) := by decide +kernel
theorem dX9_call_24 : decode cX9_call 24 = .ok (.ifCond .le 9, 3) := by decide +kernel
theorem dX9_call_27 : decode cX9_call 27 = .ok (.aload_n 0, 1) := by decide +kernel
theorem dX9_call_28 : decode cX9_call 28 = .ok (.iconst 4, 1) := by decide +kernel
theorem dX9_call_29 : decode cX9_call 29 = .ok (.invokevirtual 58, 3) := by decide +kernel
theorem dX9_call_32 : decode cX9_call 32 = .ok (.ireturn, 1) := by decide +kernel
theorem dX9_call_33 : decode cX9_call 33 = .ok (.aload_n 0, 1) := by decide +kernel
theorem dX9_call_34 : decode cX9_call 34 = .ok (.getfield 10, 3) := by decide +kernel
theorem dX9_call_37 : decode cX9_call 37 = .ok (.getfield 224, 3) := by decide +kernel
theorem dX9_call_40 : decode cX9_call 40 = .ok (.iload_n 1, 1) := by decide +kernel
theorem dX9_call_41 : decode cX9_call 41 = .ok (.invokevirtual 245, 3) := by decide +kernel
theorem dX9_call_44 : decode cX9_call 44 = .ok (.ireturn, 1) := by decide +kernel
theorem dX9_back_0 : decode cX9_back 0 = .ok (.iload_n 1, 1) := by decide +kernel
theorem dX9_back_1 : decode cX9_back 1 = .ok (.invokestatic 83, 3) := by decide +kernel
theorem dX9_back_4 : decode cX9_back 4 = .ok (.ifCond .eq 17, 3) := by decide +kernel
theorem dX9_back_7 : decode cX9_back 7 = .ok (.aload_n 0, 1) := by decide +kernel
theorem dX9_back_8 : decode cX9_back 8 = .ok (.getfield 10, 3) := by decide +kernel
theorem dX9_back_11 : decode cX9_back 11 = .ok (.getfield 224, 3) := by decide +kernel
theorem dX9_back_14 : decode cX9_back 14 = .ok (.iload_n 1, 1) := by decide +kernel
theorem dX9_back_15 : decode cX9_back 15 = .ok (.invokevirtual 248, 3) := by decide +kernel
theorem dX9_back_18 : decode cX9_back 18 = .ok (.goto 8, 3) := by decide +kernel
theorem dX9_back_21 : decode cX9_back 21 = .ok (.aload_n 0, 1) := by decide +kernel
theorem dX9_back_22 : decode cX9_back 22 = .ok (.iconst 0, 1) := by decide +kernel
theorem dX9_back_23 : decode cX9_back 23 = .ok (.invokevirtual 58, 3) := by decide +kernel
theorem dX9_back_26 : decode cX9_back 26 = .ok (.ireturn, 1) := by decide +kernel
theorem dX9_suretyOf_0 : decode cX9_suretyOf 0 = .ok (.iload_n 1, 1) := by decide +kernel
theorem dX9_suretyOf_1 : decode cX9_suretyOf 1 = .ok (.invokestatic 218, 3) := by decide +kernel
theorem dX9_suretyOf_4 : decode cX9_suretyOf 4 = .ok (.ifCond .eq 13, 3) := by decide +kernel
theorem dX9_suretyOf_7 : decode cX9_suretyOf 7 = .ok (.iload_n 2, 1) := by decide +kernel
theorem dX9_suretyOf_8 : decode cX9_suretyOf 8 = .ok (.ifCond .lt 9, 3) := by decide +kernel
theorem dX9_suretyOf_11 : decode cX9_suretyOf 11 = .ok (.iload_n 2, 1) := by decide +kernel
theorem dX9_suretyOf_12 : decode cX9_suretyOf 12 = .ok (.bipush 8, 2) := by decide +kernel
theorem dX9_suretyOf_14 : decode cX9_suretyOf 14 = .ok (.if_icmp .lt 9, 3) := by decide +kernel
theorem dX9_suretyOf_17 : decode cX9_suretyOf 17 = .ok (.aload_n 0, 1) := by decide +kernel
theorem dX9_suretyOf_18 : decode cX9_suretyOf 18 = .ok (.iconst 0, 1) := by decide +kernel
theorem dX9_suretyOf_19 : decode cX9_suretyOf 19 = .ok (.invokevirtual 58, 3) := by decide +kernel
theorem dX9_suretyOf_22 : decode cX9_suretyOf 22 = .ok (.ireturn, 1) := by decide +kernel
theorem dX9_suretyOf_23 : decode cX9_suretyOf 23 = .ok (.iload_n 2, 1) := by decide +kernel
theorem dX9_suretyOf_24 : decode cX9_suretyOf 24 = .ok (.ifCond .ne 15, 3) := by decide +kernel
theorem dX9_suretyOf_27 : decode cX9_suretyOf 27 = .ok (.aload_n 0, 1) := by decide +kernel
theorem dX9_suretyOf_28 : decode cX9_suretyOf 28 = .ok (.getfield 10, 3) := by decide +kernel
theorem dX9_suretyOf_31 : decode cX9_suretyOf 31 = .ok (.getfield 224, 3) := by decide +kernel
theorem dX9_suretyOf_34 : decode cX9_suretyOf 34 = .ok (.iload_n 1, 1) := by decide +kernel
theorem dX9_suretyOf_35 : decode cX9_suretyOf 35 = .ok (.invokevirtual 251, 3) := by decide +kernel
theorem dX9_suretyOf_38 : decode cX9_suretyOf 38 = .ok (.ireturn, 1) := by decide +kernel
theorem dX9_suretyOf_39 : decode cX9_suretyOf 39 = .ok (.iload_n 2, 1) := by decide +kernel
theorem dX9_suretyOf_40 : decode cX9_suretyOf 40 = .ok (.iconst 1, 1) := by decide +kernel
theorem dX9_suretyOf_41 : decode cX9_suretyOf 41 = .ok (.if_icmp .ne 15, 3) := by decide +kernel
theorem dX9_suretyOf_44 : decode cX9_suretyOf 44 = .ok (.aload_n 0, 1) := by decide +kernel
theorem dX9_suretyOf_45 : decode cX9_suretyOf 45 = .ok (.getfield 10, 3) := by decide +kernel
theorem dX9_suretyOf_48 : decode cX9_suretyOf 48 = .ok (.getfield 224, 3) := by decide +kernel
theorem dX9_suretyOf_51 : decode cX9_suretyOf 51 = .ok (.iload_n 1, 1) := by decide +kernel
theorem dX9_suretyOf_52 : decode cX9_suretyOf 52 = .ok (.invokevirtual 254, 3) := by decide +kernel
theorem dX9_suretyOf_55 : decode cX9_suretyOf 55 = .ok (.ireturn, 1) := by decide +kernel
theorem dX9_suretyOf_56 : decode cX9_suretyOf 56 = .ok (.aload_n 0, 1) := by decide +kernel
theorem dX9_suretyOf_57 : decode cX9_suretyOf 57 = .ok (.getfield 10, 3) := by decide +kernel
theorem dX9_suretyOf_60 : decode cX9_suretyOf 60 = .ok (.getfield 224, 3) := by decide +kernel
theorem dX9_suretyOf_63 : decode cX9_suretyOf 63 = .ok (.iload_n 1, 1) := by decide +kernel
theorem dX9_suretyOf_64 : decode cX9_suretyOf 64 = .ok (.iload_n 2, 1) := by decide +kernel
theorem dX9_suretyOf_65 : decode cX9_suretyOf 65 = .ok (.iconst 2, 1) := by decide +kernel
theorem dX9_suretyOf_66 : decode cX9_suretyOf 66 = .ok (.isub, 1) := by decide +kernel
theorem dX9_suretyOf_67 : decode cX9_suretyOf 67 = .ok (.invokevirtual 257, 3) := by decide +kernel
theorem dX9_suretyOf_70 : decode cX9_suretyOf 70 = .ok (.ireturn, 1) := by decide +kernel
theorem dX9_hearing_0 : decode cX9_hearing 0 = .ok (.iload_n 1, 1) := by decide +kernel
theorem dX9_hearing_1 : decode cX9_hearing 1 = .ok (.invokestatic 83, 3) := by decide +kernel
theorem dX9_hearing_4 : decode cX9_hearing 4 = .ok (.ifCond .eq 10, 3) := by decide +kernel
theorem dX9_hearing_7 : decode cX9_hearing 7 = .ok (.iload_n 2, 1) := by decide +kernel
theorem dX9_hearing_8 : decode cX9_hearing 8 = .ok (.invokestatic 126, 3) := by decide +kernel
theorem dX9_hearing_11 : decode cX9_hearing 11 = .ok (.ifCond .ne 9, 3) := by decide +kernel
theorem dX9_hearing_14 : decode cX9_hearing 14 = .ok (.aload_n 0, 1) := by decide +kernel
theorem dX9_hearing_15 : decode cX9_hearing 15 = .ok (.iconst 0, 1) := by decide +kernel
theorem dX9_hearing_16 : decode cX9_hearing 16 = .ok (.invokevirtual 58, 3) := by decide +kernel
theorem dX9_hearing_19 : decode cX9_hearing 19 = .ok (.ireturn, 1) := by decide +kernel
theorem dX9_hearing_20 : decode cX9_hearing 20 = .ok (.aload_n 0, 1) := by decide +kernel
theorem dX9_hearing_21 : decode cX9_hearing 21 = .ok (.getfield 10, 3) := by decide +kernel
theorem dX9_hearing_24 : decode cX9_hearing 24 = .ok (.iload_n 1, 1) := by decide +kernel
theorem dX9_hearing_25 : decode cX9_hearing 25 = .ok (.iload_n 2, 1) := by decide +kernel
theorem dX9_hearing_26 : decode cX9_hearing 26 = .ok (.invokevirtual 260, 3) := by decide +kernel
theorem dX9_hearing_29 : decode cX9_hearing 29 = .ok (.istore_n 3, 1) := by decide +kernel
theorem dX9_hearing_30 : decode cX9_hearing 30 = .ok (.iload_n 3, 1) := by decide +kernel
theorem dX9_hearing_31 : decode cX9_hearing 31 = .ok (.iconst 2, 1) := by decide +kernel
theorem dX9_hearing_32 : decode cX9_hearing 32 = .ok (.if_icmp .lt 9, 3) := by decide +kernel
theorem dX9_hearing_35 : decode cX9_hearing 35 = .ok (.aload_n 0, 1) := by decide +kernel
theorem dX9_hearing_36 : decode cX9_hearing 36 = .ok (.iconst 1, 1) := by decide +kernel
theorem dX9_hearing_37 : decode cX9_hearing 37 = .ok (.invokevirtual 58, 3) := by decide +kernel
theorem dX9_hearing_40 : decode cX9_hearing 40 = .ok (.ireturn, 1) := by decide +kernel
theorem dX9_hearing_41 : decode cX9_hearing 41 = .ok (.aload_n 0, 1) := by decide +kernel
theorem dX9_hearing_42 : decode cX9_hearing 42 = .ok (.getfield 10, 3) := by decide +kernel
theorem dX9_hearing_45 : decode cX9_hearing 45 = .ok (.getfield 263, 3) := by decide +kernel
theorem dX9_hearing_48 : decode cX9_hearing 48 = .ok (.iload_n 1, 1) := by decide +kernel
theorem dX9_hearing_49 : decode cX9_hearing 49 = .ok (.iload_n 2, 1) := by decide +kernel
theorem dX9_hearing_50 : decode cX9_hearing 50 = .ok (.iastore, 1) := by decide +kernel
theorem dX9_hearing_51 : decode cX9_hearing 51 = .ok (.iload_n 3, 1) := by decide +kernel
theorem dX9_hearing_52 : decode cX9_hearing 52 = .ok (.iconst 1, 1) := by decide +kernel
theorem dX9_hearing_53 : decode cX9_hearing 53 = .ok (.iadd, 1) := by decide +kernel
theorem dX9_hearing_54 : decode cX9_hearing 54 = .ok (.ireturn, 1) := by decide +kernel
theorem dX9_heard_0 : decode cX9_heard 0 = .ok (.iload_n 1, 1) := by decide +kernel
theorem dX9_heard_1 : decode cX9_heard 1 = .ok (.invokestatic 83, 3) := by decide +kernel
theorem dX9_heard_4 : decode cX9_heard 4 = .ok (.ifCond .ne 9, 3) := by decide +kernel
theorem dX9_heard_7 : decode cX9_heard 7 = .ok (.aload_n 0, 1) := by decide +kernel
theorem dX9_heard_8 : decode cX9_heard 8 = .ok (.iconst 0, 1) := by decide +kernel
theorem dX9_heard_9 : decode cX9_heard 9 = .ok (.invokevirtual 58, 3) := by decide +kernel
theorem dX9_heard_12 : decode cX9_heard 12 = .ok (.ireturn, 1) := by decide +kernel
theorem dX9_heard_13 : decode cX9_heard 13 = .ok (.aload_n 0, 1) := by decide +kernel
theorem dX9_heard_14 : decode cX9_heard 14 = .ok (.getfield 10, 3) := by decide +kernel
theorem dX9_heard_17 : decode cX9_heard 17 = .ok (.getfield 263, 3) := by decide +kernel
theorem dX9_heard_20 : decode cX9_heard 20 = .ok (.iload_n 1, 1) := by decide +kernel
theorem dX9_heard_21 : decode cX9_heard 21 = .ok (.iaload, 1) := by decide +kernel
theorem dX9_heard_22 : decode cX9_heard 22 = .ok (.iconst (-1), 1) := by decide +kernel
theorem dX9_heard_23 : decode cX9_heard 23 = .ok (.if_icmp .ne 11, 3) := by decide +kernel
theorem dX9_heard_26 : decode cX9_heard 26 = .ok (.aload_n 0, 1) := by decide +kernel
theorem dX9_heard_27 : decode cX9_heard 27 = .ok (.iconst 3, 1) := by decide +kernel
theorem dX9_heard_28 : decode cX9_heard 28 = .ok (.invokevirtual 58, 3) := by decide +kernel
theorem dX9_heard_31 : decode cX9_heard 31 = .ok (.goto 12, 3) := by decide +kernel
theorem dX9_heard_34 : decode cX9_heard 34 = .ok (.aload_n 0, 1) := by decide +kernel
theorem dX9_heard_35 : decode cX9_heard 35 = .ok (.getfield 10, 3) := by decide +kernel
theorem dX9_heard_38 : decode cX9_heard 38 = .ok (.getfield 263, 3) := by decide +kernel
theorem dX9_heard_41 : decode cX9_heard 41 = .ok (.iload_n 1, 1) := by decide +kernel
theorem dX9_heard_42 : decode cX9_heard 42 = .ok (.iaload, 1) := by decide +kernel
theorem dX9_heard_43 : decode cX9_heard 43 = .ok (.ireturn, 1) := by decide +kernel
theorem dX9_seed_0 : decode cX9_seed 0 = .ok (.aload_n 0, 1) := by decide +kernel
theorem dX9_seed_1 : decode cX9_seed 1 = .ok (.getfield 10, 3) := by decide +kernel
theorem dX9_seed_4 : decode cX9_seed 4 = .ok (.getfield 266, 3) := by decide +kernel
theorem dX9_seed_7 : decode cX9_seed 7 = .ok (.istore_n 2, 1) := by decide +kernel
theorem dX9_seed_8 : decode cX9_seed 8 = .ok (.aload_n 0, 1) := by decide +kernel
theorem dX9_seed_9 : decode cX9_seed 9 = .ok (.getfield 10, 3) := by decide +kernel
theorem dX9_seed_12 : decode cX9_seed 12 = .ok (.iload_n 1, 1) := by decide +kernel
theorem dX9_seed_13 : decode cX9_seed 13 = .ok (.putfield 266, 3) := by decide +kernel
theorem dX9_seed_16 : decode cX9_seed 16 = .ok (.iload_n 2, 1) := by decide +kernel
theorem dX9_seed_17 : decode cX9_seed 17 = .ok (.ireturn, 1) := by decide +kernel
theorem dX9_feed_0 : decode cX9_feed 0 = .ok (.iload_n 2, 1) := by decide +kernel
theorem dX9_feed_1 : decode cX9_feed 1 = .ok (.iconst 1, 1) := by decide +kernel
theorem dX9_feed_2 : decode cX9_feed 2 = .ok (.if_icmp .lt 8, 3) := by decide +kernel
theorem dX9_feed_5 : decode cX9_feed 5 = .ok (.iload_n 2, 1) := by decide +kernel
theorem dX9_feed_6 : decode cX9_feed 6 = .ok (.iconst 4, 1) := by decide +kernel
theorem dX9_feed_7 : decode cX9_feed 7 = .ok (.if_icmp .le 9, 3) := by decide +kernel
theorem dX9_feed_10 : decode cX9_feed 10 = .ok (.aload_n 0, 1) := by decide +kernel
theorem dX9_feed_11 : decode cX9_feed 11 = .ok (.iconst 0, 1) := by decide +kernel
theorem dX9_feed_12 : decode cX9_feed 12 = .ok (.invokevirtual 58, 3) := by decide +kernel
theorem dX9_feed_15 : decode cX9_feed 15 = .ok (.ireturn, 1) := by decide +kernel
theorem dX9_feed_16 : decode cX9_feed 16 = .ok (.iload_n 2, 1) := by decide +kernel
theorem dX9_feed_17 : decode cX9_feed 17 = .ok (.aload_n 0, 1) := by decide +kernel
theorem dX9_feed_18 : decode cX9_feed 18 = .ok (.getfield 26, 3) := by decide +kernel
theorem dX9_feed_21 : decode cX9_feed 21 = .ok (.invokevirtual 270, 3) := by decide +kernel
theorem dX9_feed_24 : decode cX9_feed 24 = .ok (.if_icmp .le 9, 3) := by decide +kernel
theorem dX9_feed_27 : decode cX9_feed 27 = .ok (.aload_n 0, 1) := by decide +kernel
theorem dX9_feed_28 : decode cX9_feed 28 = .ok (.iconst 1, 1) := by decide +kernel
theorem dX9_feed_29 : decode cX9_feed 29 = .ok (.invokevirtual 58, 3) := by decide +kernel
theorem dX9_feed_32 : decode cX9_feed 32 = .ok (.ireturn, 1) := by decide +kernel
theorem dX9_feed_33 : decode cX9_feed 33 = .ok (.iload_n 2, 1) := by decide +kernel
theorem dX9_feed_34 : decode cX9_feed 34 = .ok (.iconst 1, 1) := by decide +kernel
theorem dX9_feed_35 : decode cX9_feed 35 = .ok (.isub, 1) := by decide +kernel
theorem dX9_feed_36 : decode cX9_feed 36 = .ok (.istore_n 3, 1) := by decide +kernel
theorem dX9_feed_37 : decode cX9_feed 37 = .ok (.iload_n 3, 1) := by decide +kernel
theorem dX9_feed_38 : decode cX9_feed 38 = .ok (.ifCond .lt 26, 3) := by decide +kernel
theorem dX9_feed_41 : decode cX9_feed 41 = .ok (.aload_n 0, 1) := by decide +kernel
theorem dX9_feed_42 : decode cX9_feed 42 = .ok (.getfield 26, 3) := by decide +kernel
theorem dX9_feed_45 : decode cX9_feed 45 = .ok (.iload_n 1, 1) := by decide +kernel
theorem dX9_feed_46 : decode cX9_feed 46 = .ok (.bipush 8, 2) := by decide +kernel
theorem dX9_feed_48 : decode cX9_feed 48 = .ok (.iload_n 3, 1) := by decide +kernel
theorem dX9_feed_49 : decode cX9_feed 49 = .ok (.imul, 1) := by decide +kernel
theorem dX9_feed_50 : decode cX9_feed 50 = .ok (.iushr, 1) := by decide +kernel
theorem dX9_feed_51 : decode cX9_feed 51 = .ok (.sipush 255, 3) := by decide +kernel
theorem dX9_feed_54 : decode cX9_feed 54 = .ok (.iand, 1) := by decide +kernel
theorem dX9_feed_55 : decode cX9_feed 55 = .ok (.invokevirtual 273, 3) := by decide +kernel
theorem dX9_feed_58 : decode cX9_feed 58 = .ok (.iinc 3 (-1), 3) := by decide +kernel
theorem dX9_feed_61 : decode cX9_feed 61 = .ok (.goto (-24), 3) := by decide +kernel
theorem dX9_feed_64 : decode cX9_feed 64 = .ok (.aload_n 0, 1) := by decide +kernel
theorem dX9_feed_65 : decode cX9_feed 65 = .ok (.getfield 26, 3) := by decide +kernel
theorem dX9_feed_68 : decode cX9_feed 68 = .ok (.invokevirtual 277, 3) := by decide +kernel
theorem dX9_feed_71 : decode cX9_feed 71 = .ok (.ireturn, 1) := by decide +kernel
theorem dX9_wipe_0 : decode cX9_wipe 0 = .ok (.aload_n 0, 1) := by decide +kernel
theorem dX9_wipe_1 : decode cX9_wipe 1 = .ok (.getfield 26, 3) := by decide +kernel
theorem dX9_wipe_4 : decode cX9_wipe 4 = .ok (.invokevirtual 277, 3) := by decide +kernel
theorem dX9_wipe_7 : decode cX9_wipe 7 = .ok (.istore_n 1, 1) := by decide +kernel
theorem dX9_wipe_8 : decode cX9_wipe 8 = .ok (.aload_n 0, 1) := by decide +kernel
theorem dX9_wipe_9 : decode cX9_wipe 9 = .ok (.getfield 26, 3) := by decide +kernel
theorem dX9_wipe_12 : decode cX9_wipe 12 = .ok (.invokevirtual 278, 3) := by decide +kernel
theorem dX9_wipe_15 : decode cX9_wipe 15 = .ok (.iload_n 1, 1) := by decide +kernel
theorem dX9_wipe_16 : decode cX9_wipe 16 = .ok (.ireturn, 1) := by decide +kernel
theorem dX9_text_0 : decode cX9_text 0 = .ok (.aload_n 0, 1) := by decide +kernel
theorem dX9_text_1 : decode cX9_text 1 = .ok (.getfield 26, 3) := by decide +kernel
theorem dX9_text_4 : decode cX9_text 4 = .ok (.aload_n 0, 1) := by decide +kernel
theorem dX9_text_5 : decode cX9_text 5 = .ok (.getfield 10, 3) := by decide +kernel
theorem dX9_text_8 : decode cX9_text 8 = .ok (.getfield 137, 3) := by decide +kernel
theorem dX9_text_11 : decode cX9_text 11 = .ok (.invokevirtual 281, 3) := by decide +kernel
theorem dX9_text_14 : decode cX9_text 14 = .ok (.istore_n 1, 1) := by decide +kernel
theorem dX9_text_15 : decode cX9_text 15 = .ok (.aload_n 0, 1) := by decide +kernel
theorem dX9_text_16 : decode cX9_text 16 = .ok (.getfield 26, 3) := by decide +kernel
theorem dX9_text_19 : decode cX9_text 19 = .ok (.invokevirtual 278, 3) := by decide +kernel
theorem dX9_text_22 : decode cX9_text 22 = .ok (.iload_n 1, 1) := by decide +kernel
theorem dX9_text_23 : decode cX9_text 23 = .ok (.iconst (-1), 1) := by decide +kernel
theorem dX9_text_24 : decode cX9_text 24 = .ok (.if_icmp .eq 7, 3) := by decide +kernel
theorem dX9_text_27 : decode cX9_text 27 = .ok (.iconst (-1), 1) := by decide +kernel
theorem dX9_text_28 : decode cX9_text 28 = .ok (.iload_n 1, 1) := by decide +kernel
theorem dX9_text_29 : decode cX9_text 29 = .ok (.isub, 1) := by decide +kernel
theorem dX9_text_30 : decode cX9_text 30 = .ok (.ireturn, 1) := by decide +kernel
theorem dX9_text_31 : decode cX9_text 31 = .ok (.iconst 0, 1) := by decide +kernel
theorem dX9_text_32 : decode cX9_text 32 = .ok (.istore_n 2, 1) := by decide +kernel
theorem dX9_text_33 : decode cX9_text 33 = .ok (.iload_n 2, 1) := by decide +kernel
theorem dX9_text_34 : decode cX9_text 34 = .ok (.aload_n 0, 1) := by decide +kernel
theorem dX9_text_35 : decode cX9_text 35 = .ok (.getfield 26, 3) := by decide +kernel
theorem dX9_text_38 : decode cX9_text 38 = .ok (.invokevirtual 285, 3) := by decide +kernel
theorem dX9_text_41 : decode cX9_text 41 = .ok (.if_icmp .ge 14, 3) := by decide +kernel
theorem dX9_text_44 : decode cX9_text 44 = .ok (.aload_n 0, 1) := by decide +kernel
theorem dX9_text_45 : decode cX9_text 45 = .ok (.iload_n 2, 1) := by decide +kernel
theorem dX9_text_46 : decode cX9_text 46 = .ok (.invokevirtual 288, 3) := by decide +kernel
theorem dX9_text_49 : decode cX9_text 49 = .ok (.iinc 2 1, 3) := by decide +kernel
theorem dX9_text_52 : decode cX9_text 52 = .ok (.goto (-19), 3) := by decide +kernel
theorem dX9_text_55 : decode cX9_text 55 = .ok (.aload_n 0, 1) := by decide +kernel
theorem dX9_text_56 : decode cX9_text 56 = .ok (.getfield 26, 3) := by decide +kernel
theorem dX9_text_59 : decode cX9_text 59 = .ok (.invokevirtual 285, 3) := by decide +kernel
theorem dX9_text_62 : decode cX9_text 62 = .ok (.ireturn, 1) := by decide +kernel
theorem dX9_hold_0 : decode cX9_hold 0 = .ok (.iload_n 1, 1) := by decide +kernel
theorem dX9_hold_1 : decode cX9_hold 1 = .ok (.invokestatic 291, 3) := by decide +kernel
theorem dX9_hold_4 : decode cX9_hold 4 = .ok (.ifCond .eq 22, 3) := by decide +kernel
theorem dX9_hold_7 : decode cX9_hold 7 = .ok (.iload_n 2, 1) := by decide +kernel
theorem dX9_hold_8 : decode cX9_hold 8 = .ok (.iconst (-1), 1) := by decide +kernel
theorem dX9_hold_9 : decode cX9_hold 9 = .ok (.if_icmp .eq 23, 3) := by decide +kernel
theorem dX9_hold_12 : decode cX9_hold 12 = .ok (.aload_n 0, 1) := by decide +kernel
theorem dX9_hold_13 : decode cX9_hold 13 = .ok (.getfield 10, 3) := by decide +kernel
theorem dX9_hold_16 : decode cX9_hold 16 = .ok (.getfield 137, 3) := by decide +kernel
theorem dX9_hold_19 : decode cX9_hold 19 = .ok (.iload_n 2, 1) := by decide +kernel
theorem dX9_hold_20 : decode cX9_hold 20 = .ok (.invokevirtual 146, 3) := by decide +kernel
theorem dX9_hold_23 : decode cX9_hold 23 = .ok (.ifCond .ne 9, 3) := by decide +kernel
theorem dX9_hold_26 : decode cX9_hold 26 = .ok (.aload_n 0, 1) := by decide +kernel
theorem dX9_hold_27 : decode cX9_hold 27 = .ok (.iconst 0, 1) := by decide +kernel
theorem dX9_hold_28 : decode cX9_hold 28 = .ok (.invokevirtual 58, 3) := by decide +kernel
theorem dX9_hold_31 : decode cX9_hold 31 = .ok (.ireturn, 1) := by decide +kernel
theorem dX9_hold_32 : decode cX9_hold 32 = .ok (.aload_n 0, 1) := by decide +kernel
theorem dX9_hold_33 : decode cX9_hold 33 = .ok (.getfield 10, 3) := by decide +kernel
theorem dX9_hold_36 : decode cX9_hold 36 = .ok (.getfield 294, 3) := by decide +kernel
theorem dX9_hold_39 : decode cX9_hold 39 = .ok (.iload_n 1, 1) := by decide +kernel
theorem dX9_hold_40 : decode cX9_hold 40 = .ok (.iload_n 2, 1) := by decide +kernel
theorem dX9_hold_41 : decode cX9_hold 41 = .ok (.iastore, 1) := by decide +kernel
theorem dX9_hold_42 : decode cX9_hold 42 = .ok (.iconst 1, 1) := by decide +kernel
theorem dX9_hold_43 : decode cX9_hold 43 = .ok (.ireturn, 1) := by decide +kernel
theorem dX9_as_0 : decode cX9_as 0 = .ok (.iload_n 1, 1) := by decide +kernel
theorem dX9_as_1 : decode cX9_as 1 = .ok (.invokestatic 291, 3) := by decide +kernel
theorem dX9_as_4 : decode cX9_as 4 = .ok (.ifCond .eq 10, 3) := by decide +kernel
theorem dX9_as_7 : decode cX9_as 7 = .ok (.iload_n 2, 1) := by decide +kernel
theorem dX9_as_8 : decode cX9_as 8 = .ok (.invokestatic 132, 3) := by decide +kernel
theorem dX9_as_11 : decode cX9_as 11 = .ok (.ifCond .ne 9, 3) := by decide +kernel
theorem dX9_as_14 : decode cX9_as 14 = .ok (.aload_n 0, 1) := by decide +kernel
theorem dX9_as_15 : decode cX9_as 15 = .ok (.iconst 0, 1) := by decide +kernel
theorem dX9_as_16 : decode cX9_as 16 = .ok (.invokevirtual 58, 3) := by decide +kernel
theorem dX9_as_19 : decode cX9_as 19 = .ok (.ireturn, 1) := by decide +kernel
theorem dX9_as_20 : decode cX9_as 20 = .ok (.aload_n 0, 1) := by decide +kernel
theorem dX9_as_21 : decode cX9_as 21 = .ok (.getfield 10, 3) := by decide +kernel
theorem dX9_as_24 : decode cX9_as 24 = .ok (.getfield 294, 3) := by decide +kernel
theorem dX9_as_27 : decode cX9_as 27 = .ok (.iload_n 1, 1) := by decide +kernel
theorem dX9_as_28 : decode cX9_as 28 = .ok (.iaload, 1) := by decide +kernel
theorem dX9_as_29 : decode cX9_as 29 = .ok (.istore_n 3, 1) := by decide +kernel
theorem dX9_as_30 : decode cX9_as 30 = .ok (.aload_n 0, 1) := by decide +kernel
theorem dX9_as_31 : decode cX9_as 31 = .ok (.getfield 10, 3) := by decide +kernel
theorem dX9_as_34 : decode cX9_as 34 = .ok (.getfield 137, 3) := by decide +kernel
theorem dX9_as_37 : decode cX9_as 37 = .ok (.iload_n 3, 1) := by decide +kernel
theorem dX9_as_38 : decode cX9_as 38 = .ok (.invokevirtual 146, 3) := by decide +kernel
theorem dX9_as_41 : decode cX9_as 41 = .ok (.ifCond .ne 9, 3) := by decide +kernel
theorem dX9_as_44 : decode cX9_as 44 = .ok (.aload_n 0, 1) := by decide +kernel
theorem dX9_as_45 : decode cX9_as 45 = .ok (.iconst 5, 1) := by decide +kernel
theorem dX9_as_46 : decode cX9_as 46 = .ok (.invokevirtual 58, 3) := by decide +kernel
theorem dX9_as_49 : decode cX9_as 49 = .ok (.ireturn, 1) := by decide +kernel
theorem dX9_as_50 : decode cX9_as 50 = .ok (.aload_n 0, 1) := by decide +kernel
theorem dX9_as_51 : decode cX9_as 51 = .ok (.getfield 10, 3) := by decide +kernel
theorem dX9_as_54 : decode cX9_as 54 = .ok (.getfield 137, 3) := by decide +kernel
theorem dX9_as_57 : decode cX9_as 57 = .ok (.iload_n 3, 1) := by decide +kernel
theorem dX9_as_58 : decode cX9_as 58 = .ok (.iload_n 2, 1) := by decide +kernel
theorem dX9_as_59 : decode cX9_as 59 = .ok (.invokevirtual 297, 3) := by decide +kernel
theorem dX9_as_62 : decode cX9_as 62 = .ok (.ifCond .eq 7, 3) := by decide +kernel
theorem dX9_as_65 : decode cX9_as 65 = .ok (.iload_n 3, 1) := by decide +kernel
theorem dX9_as_66 : decode cX9_as 66 = .ok (.goto 8, 3) := by decide +kernel
theorem dX9_as_69 : decode cX9_as 69 = .ok (.aload_n 0, 1) := by decide +kernel
theorem dX9_as_70 : decode cX9_as 70 = .ok (.iconst 2, 1) := by decide +kernel
theorem dX9_as_71 : decode cX9_as 71 = .ok (.invokevirtual 58, 3) := by decide +kernel
theorem dX9_as_74 : decode cX9_as 74 = .ok (.ireturn, 1) := by decide +kernel
theorem dX9_sheet_0 : decode cX9_sheet 0 = .ok (.iload_n 1, 1) := by decide +kernel
theorem dX9_sheet_1 : decode cX9_sheet 1 = .ok (.invokestatic 300, 3) := by decide +kernel
theorem dX9_sheet_4 : decode cX9_sheet 4 = .ok (.ifCond .eq 10, 3) := by decide +kernel
theorem dX9_sheet_7 : decode cX9_sheet 7 = .ok (.iload_n 2, 1) := by decide +kernel
theorem dX9_sheet_8 : decode cX9_sheet 8 = .ok (.invokestatic 303, 3) := by decide +kernel
theorem dX9_sheet_11 : decode cX9_sheet 11 = .ok (.ifCond .ne 9, 3) := by decide +kernel
theorem dX9_sheet_14 : decode cX9_sheet 14 = .ok (.aload_n 0, 1) := by decide +kernel
theorem dX9_sheet_15 : decode cX9_sheet 15 = .ok (.iconst 0, 1) := by decide +kernel
theorem dX9_sheet_16 : decode cX9_sheet 16 = .ok (.invokevirtual 58, 3) := by decide +kernel
theorem dX9_sheet_19 : decode cX9_sheet 19 = .ok (.ireturn, 1) := by decide +kernel
theorem dX9_sheet_20 : decode cX9_sheet 20 = .ok (.iload_n 3, 1) := by decide +kernel
theorem dX9_sheet_21 : decode cX9_sheet 21 = .ok (.ifCond .ge 10, 3) := by decide +kernel
theorem dX9_sheet_24 : decode cX9_sheet 24 = .ok (.aload_n 0, 1) := by decide +kernel
theorem dX9_sheet_25 : decode cX9_sheet 25 = .ok (.bipush 6, 2) := by decide +kernel
theorem dX9_sheet_27 : decode cX9_sheet 27 = .ok (.invokevirtual 58, 3) := by decide +kernel
theorem dX9_sheet_30 : decode cX9_sheet 30 = .ok (.ireturn, 1) := by decide +kernel
theorem dX9_sheet_31 : decode cX9_sheet 31 = .ok (.iload_n 3, 1) := by decide +kernel
theorem dX9_sheet_32 : decode cX9_sheet 32 = .ok (.bipush 40, 2) := by decide +kernel
theorem dX9_sheet_34 : decode cX9_sheet 34 = .ok (.if_icmp .le 9, 3) := by decide +kernel
theorem dX9_sheet_37 : decode cX9_sheet 37 = .ok (.aload_n 0, 1) := by decide +kernel
theorem dX9_sheet_38 : decode cX9_sheet 38 = .ok (.iconst 0, 1) := by decide +kernel
theorem dX9_sheet_39 : decode cX9_sheet 39 = .ok (.invokevirtual 58, 3) := by decide +kernel
theorem dX9_sheet_42 : decode cX9_sheet 42 = .ok (.ireturn, 1) := by decide +kernel
theorem dX9_sheet_43 : decode cX9_sheet 43 = .ok (.aload_n 0, 1) := by decide +kernel
theorem dX9_sheet_44 : decode cX9_sheet 44 = .ok (.getfield 33, 3) := by decide +kernel
theorem dX9_sheet_47 : decode cX9_sheet 47 = .ok (.iload_n 1, 1) := by decide +kernel
theorem dX9_sheet_48 : decode cX9_sheet 48 = .ok (.iload_n 2, 1) := by decide +kernel
theorem dX9_sheet_49 : decode cX9_sheet 49 = .ok (.iload_n 3, 1) := by decide +kernel
theorem dX9_sheet_50 : decode cX9_sheet 50 = .ok (.invokevirtual 306, 3) := by decide +kernel
theorem dX9_sheet_53 : decode cX9_sheet 53 = .ok (.aload_n 0, 1) := by decide +kernel
theorem dX9_sheet_54 : decode cX9_sheet 54 = .ok (.getfield 33, 3) := by decide +kernel
theorem dX9_sheet_57 : decode cX9_sheet 57 = .ok (.iload_n 1, 1) := by decide +kernel
theorem dX9_sheet_58 : decode cX9_sheet 58 = .ok (.invokevirtual 309, 3) := by decide +kernel
theorem dX9_sheet_61 : decode cX9_sheet 61 = .ok (.ireturn, 1) := by decide +kernel
theorem dX9_write_0 : decode cX9_write 0 = .ok (.iload_n 1, 1) := by decide +kernel
theorem dX9_write_1 : decode cX9_write 1 = .ok (.invokestatic 300, 3) := by decide +kernel
theorem dX9_write_4 : decode cX9_write 4 = .ok (.ifCond .ne 9, 3) := by decide +kernel
theorem dX9_write_7 : decode cX9_write 7 = .ok (.aload_n 0, 1) := by decide +kernel
theorem dX9_write_8 : decode cX9_write 8 = .ok (.iconst 0, 1) := by decide +kernel
theorem dX9_write_9 : decode cX9_write 9 = .ok (.invokevirtual 58, 3) := by decide +kernel
theorem dX9_write_12 : decode cX9_write 12 = .ok (.ireturn, 1) := by decide +kernel
theorem dX9_write_13 : decode cX9_write 13 = .ok (.aload_n 0, 1) := by decide +kernel
theorem dX9_write_14 : decode cX9_write 14 = .ok (.getfield 33, 3) := by decide +kernel
theorem dX9_write_17 : decode cX9_write 17 = .ok (.iload_n 1, 1) := by decide +kernel
theorem dX9_write_18 : decode cX9_write 18 = .ok (.invokevirtual 311, 3) := by decide +kernel
theorem dX9_write_21 : decode cX9_write 21 = .ok (.ifCond .eq 9, 3) := by decide +kernel
theorem dX9_write_24 : decode cX9_write 24 = .ok (.aload_n 0, 1) := by decide +kernel
theorem dX9_write_25 : decode cX9_write 25 = .ok (.iconst 5, 1) := by decide +kernel
theorem dX9_write_26 : decode cX9_write 26 = .ok (.invokevirtual 58, 3) := by decide +kernel
theorem dX9_write_29 : decode cX9_write 29 = .ok (.ireturn, 1) := by decide +kernel
theorem dX9_write_30 : decode cX9_write 30 = .ok (.iload_n 2, 1) := by decide +kernel
theorem dX9_write_31 : decode cX9_write 31 = .ok (.ifCond .lt 15, 3) := by decide +kernel
theorem dX9_write_34 : decode cX9_write 34 = .ok (.iload_n 2, 1) := by decide +kernel
theorem dX9_write_35 : decode cX9_write 35 = .ok (.aload_n 0, 1) := by decide +kernel
theorem dX9_write_36 : decode cX9_write 36 = .ok (.getfield 33, 3) := by decide +kernel
theorem dX9_write_39 : decode cX9_write 39 = .ok (.iload_n 1, 1) := by decide +kernel
theorem dX9_write_40 : decode cX9_write 40 = .ok (.invokevirtual 309, 3) := by decide +kernel
theorem dX9_write_43 : decode cX9_write 43 = .ok (.if_icmp .lt 9, 3) := by decide +kernel
theorem dX9_write_46 : decode cX9_write 46 = .ok (.aload_n 0, 1) := by decide +kernel
theorem dX9_write_47 : decode cX9_write 47 = .ok (.iconst 0, 1) := by decide +kernel
theorem dX9_write_48 : decode cX9_write 48 = .ok (.invokevirtual 58, 3) := by decide +kernel
theorem dX9_write_51 : decode cX9_write 51 = .ok (.ireturn, 1) := by decide +kernel
theorem dX9_write_52 : decode cX9_write 52 = .ok (.aload_n 0, 1) := by decide +kernel
theorem dX9_write_53 : decode cX9_write 53 = .ok (.getfield 33, 3) := by decide +kernel
theorem dX9_write_56 : decode cX9_write 56 = .ok (.iload_n 1, 1) := by decide +kernel
theorem dX9_write_57 : decode cX9_write 57 = .ok (.iload_n 2, 1) := by decide +kernel
theorem dX9_write_58 : decode cX9_write 58 = .ok (.iload_n 3, 1) := by decide +kernel
theorem dX9_write_59 : decode cX9_write 59 = .ok (.invokevirtual 314, 3) := by decide +kernel
theorem dX9_write_62 : decode cX9_write 62 = .ok (.iconst 1, 1) := by decide +kernel
theorem dX9_write_63 : decode cX9_write 63 = .ok (.ireturn, 1) := by decide +kernel
theorem dX9_copy_0 : decode cX9_copy 0 = .ok (.iload_n 1, 1) := by decide +kernel
theorem dX9_copy_1 : decode cX9_copy 1 = .ok (.invokestatic 300, 3) := by decide +kernel
theorem dX9_copy_4 : decode cX9_copy 4 = .ok (.ifCond .eq 10, 3) := by decide +kernel
theorem dX9_copy_7 : decode cX9_copy 7 = .ok (.iload_n 3, 1) := by decide +kernel
theorem dX9_copy_8 : decode cX9_copy 8 = .ok (.invokestatic 300, 3) := by decide +kernel
theorem dX9_copy_11 : decode cX9_copy 11 = .ok (.ifCond .ne 9, 3) := by decide +kernel
theorem dX9_copy_14 : decode cX9_copy 14 = .ok (.aload_n 0, 1) := by decide +kernel
theorem dX9_copy_15 : decode cX9_copy 15 = .ok (.iconst 0, 1) := by decide +kernel
theorem dX9_copy_16 : decode cX9_copy 16 = .ok (.invokevirtual 58, 3) := by decide +kernel
theorem dX9_copy_19 : decode cX9_copy 19 = .ok (.ireturn, 1) := by decide +kernel
theorem dX9_copy_20 : decode cX9_copy 20 = .ok (.aload_n 0, 1) := by decide +kernel
theorem dX9_copy_21 : decode cX9_copy 21 = .ok (.getfield 33, 3) := by decide +kernel
theorem dX9_copy_24 : decode cX9_copy 24 = .ok (.iload_n 1, 1) := by decide +kernel
theorem dX9_copy_25 : decode cX9_copy 25 = .ok (.invokevirtual 311, 3) := by decide +kernel
theorem dX9_copy_28 : decode cX9_copy 28 = .ok (.ifCond .ne 14, 3) := by decide +kernel
theorem dX9_copy_31 : decode cX9_copy 31 = .ok (.aload_n 0, 1) := by decide +kernel
theorem dX9_copy_32 : decode cX9_copy 32 = .ok (.getfield 33, 3) := by decide +kernel
theorem dX9_copy_35 : decode cX9_copy 35 = .ok (.iload_n 3, 1) := by decide +kernel
theorem dX9_copy_36 : decode cX9_copy 36 = .ok (.invokevirtual 311, 3) := by decide +kernel
theorem dX9_copy_39 : decode cX9_copy 39 = .ok (.ifCond .eq 9, 3) := by decide +kernel
theorem dX9_copy_42 : decode cX9_copy 42 = .ok (.aload_n 0, 1) := by decide +kernel
theorem dX9_copy_43 : decode cX9_copy 43 = .ok (.iconst 5, 1) := by decide +kernel
theorem dX9_copy_44 : decode cX9_copy 44 = .ok (.invokevirtual 58, 3) := by decide +kernel
theorem dX9_copy_47 : decode cX9_copy 47 = .ok (.ireturn, 1) := by decide +kernel
theorem dX9_copy_48 : decode cX9_copy 48 = .ok (.aload_n 0, 1) := by decide +kernel
theorem dX9_copy_49 : decode cX9_copy 49 = .ok (.getfield 33, 3) := by decide +kernel
theorem dX9_copy_52 : decode cX9_copy 52 = .ok (.iload_n 1, 1) := by decide +kernel
theorem dX9_copy_53 : decode cX9_copy 53 = .ok (.invokevirtual 317, 3) := by decide +kernel
theorem dX9_copy_56 : decode cX9_copy 56 = .ok (.aload_n 0, 1) := by decide +kernel
theorem dX9_copy_57 : decode cX9_copy 57 = .ok (.getfield 33, 3) := by decide +kernel
theorem dX9_copy_60 : decode cX9_copy 60 = .ok (.iload_n 3, 1) := by decide +kernel
theorem dX9_copy_61 : decode cX9_copy 61 = .ok (.invokevirtual 317, 3) := by decide +kernel
theorem dX9_copy_64 : decode cX9_copy 64 = .ok (.if_icmp .eq 9, 3) := by decide +kernel
theorem dX9_copy_67 : decode cX9_copy 67 = .ok (.aload_n 0, 1) := by decide +kernel
theorem dX9_copy_68 : decode cX9_copy 68 = .ok (.iconst 2, 1) := by decide +kernel
theorem dX9_copy_69 : decode cX9_copy 69 = .ok (.invokevirtual 58, 3) := by decide +kernel
theorem dX9_copy_72 : decode cX9_copy 72 = .ok (.ireturn, 1) := by decide +kernel
theorem dX9_copy_73 : decode cX9_copy 73 = .ok (.aload_n 0, 1) := by decide +kernel
theorem dX9_copy_74 : decode cX9_copy 74 = .ok (.getfield 33, 3) := by decide +kernel
theorem dX9_copy_77 : decode cX9_copy 77 = .ok (.iload_n 1, 1) := by decide +kernel
theorem dX9_copy_78 : decode cX9_copy 78 = .ok (.iload_n 2, 1) := by decide +kernel
theorem dX9_copy_79 : decode cX9_copy 79 = .ok (.iload 5, 2) := by decide +kernel
theorem dX9_copy_81 : decode cX9_copy 81 = .ok (.invokevirtual 320, 3) := by decide +kernel
theorem dX9_copy_84 : decode cX9_copy 84 = .ok (.ifCond .eq 18, 3) := by decide +kernel
theorem dX9_copy_87 : decode cX9_copy 87 = .ok (.aload_n 0, 1) := by decide +kernel
theorem dX9_copy_88 : decode cX9_copy 88 = .ok (.getfield 33, 3) := by decide +kernel
theorem dX9_copy_91 : decode cX9_copy 91 = .ok (.iload_n 3, 1) := by decide +kernel
theorem dX9_copy_92 : decode cX9_copy 92 = .ok (.iload 4, 2) := by decide +kernel
theorem dX9_copy_94 : decode cX9_copy 94 = .ok (.iload 5, 2) := by decide +kernel
theorem dX9_copy_96 : decode cX9_copy 96 = .ok (.invokevirtual 320, 3) := by decide +kernel
theorem dX9_copy_99 : decode cX9_copy 99 = .ok (.ifCond .ne 9, 3) := by decide +kernel
theorem dX9_copy_102 : decode cX9_copy 102 = .ok (.aload_n 0, 1) := by decide +kernel
theorem dX9_copy_103 : decode cX9_copy 103 = .ok (.iconst 0, 1) := by decide +kernel
theorem dX9_copy_104 : decode cX9_copy 104 = .ok (.invokevirtual 58, 3) := by decide +kernel
theorem dX9_copy_107 : decode cX9_copy 107 = .ok (.ireturn, 1) := by decide +kernel
theorem dX9_copy_108 : decode cX9_copy 108 = .ok (.aload_n 0, 1) := by decide +kernel
theorem dX9_copy_109 : decode cX9_copy 109 = .ok (.getfield 33, 3) := by decide +kernel
theorem dX9_copy_112 : decode cX9_copy 112 = .ok (.iload_n 1, 1) := by decide +kernel
theorem dX9_copy_113 : decode cX9_copy 113 = .ok (.iload_n 2, 1) := by decide +kernel
theorem dX9_copy_114 : decode cX9_copy 114 = .ok (.iload_n 3, 1) := by decide +kernel
theorem dX9_copy_115 : decode cX9_copy 115 = .ok (.iload 4, 2) := by decide +kernel
theorem dX9_copy_117 : decode cX9_copy 117 = .ok (.iload 5, 2) := by decide +kernel
theorem dX9_copy_119 : decode cX9_copy 119 = .ok (.invokevirtual 323, 3) := by decide +kernel
theorem dX9_copy_122 : decode cX9_copy 122 = .ok (.iload 5, 2) := by decide +kernel
theorem dX9_copy_124 : decode cX9_copy 124 = .ok (.ireturn, 1) := by decide +kernel
theorem dX9_load_0 : decode cX9_load 0 = .ok (.iload_n 1, 1) := by decide +kernel
theorem dX9_load_1 : decode cX9_load 1 = .ok (.invokestatic 300, 3) := by decide +kernel
theorem dX9_load_4 : decode cX9_load 4 = .ok (.ifCond .ne 9, 3) := by decide +kernel
theorem dX9_load_7 : decode cX9_load 7 = .ok (.aload_n 0, 1) := by decide +kernel
theorem dX9_load_8 : decode cX9_load 8 = .ok (.iconst 0, 1) := by decide +kernel
theorem dX9_load_9 : decode cX9_load 9 = .ok (.invokevirtual 58, 3) := by decide +kernel
theorem dX9_load_12 : decode cX9_load 12 = .ok (.ireturn, 1) := by decide +kernel
theorem dX9_load_13 : decode cX9_load 13 = .ok (.aload_n 0, 1) := by decide +kernel
theorem dX9_load_14 : decode cX9_load 14 = .ok (.getfield 33, 3) := by decide +kernel
theorem dX9_load_17 : decode cX9_load 17 = .ok (.iload_n 1, 1) := by decide +kernel
theorem dX9_load_18 : decode cX9_load 18 = .ok (.invokevirtual 311, 3) := by decide +kernel
theorem dX9_load_21 : decode cX9_load 21 = .ok (.ifCond .eq 9, 3) := by decide +kernel
theorem dX9_load_24 : decode cX9_load 24 = .ok (.aload_n 0, 1) := by decide +kernel
theorem dX9_load_25 : decode cX9_load 25 = .ok (.iconst 5, 1) := by decide +kernel
theorem dX9_load_26 : decode cX9_load 26 = .ok (.invokevirtual 58, 3) := by decide +kernel
theorem dX9_load_29 : decode cX9_load 29 = .ok (.ireturn, 1) := by decide +kernel
theorem dX9_load_30 : decode cX9_load 30 = .ok (.iload_n 2, 1) := by decide +kernel
theorem dX9_load_31 : decode cX9_load 31 = .ok (.invokestatic 83, 3) := by decide +kernel
theorem dX9_load_34 : decode cX9_load 34 = .ok (.ifCond .eq 10, 3) := by decide +kernel
theorem dX9_load_37 : decode cX9_load 37 = .ok (.iload_n 3, 1) := by decide +kernel
theorem dX9_load_38 : decode cX9_load 38 = .ok (.invokestatic 126, 3) := by decide +kernel
theorem dX9_load_41 : decode cX9_load 41 = .ok (.ifCond .ne 9, 3) := by decide +kernel
theorem dX9_load_44 : decode cX9_load 44 = .ok (.aload_n 0, 1) := by decide +kernel
theorem dX9_load_45 : decode cX9_load 45 = .ok (.iconst 0, 1) := by decide +kernel
theorem dX9_load_46 : decode cX9_load 46 = .ok (.invokevirtual 58, 3) := by decide +kernel
theorem dX9_load_49 : decode cX9_load 49 = .ok (.ireturn, 1) := by decide +kernel
theorem dX9_load_50 : decode cX9_load 50 = .ok (.iconst 0, 1) := by decide +kernel
theorem dX9_load_51 : decode cX9_load 51 = .ok (.istore 4, 2) := by decide +kernel
theorem dX9_load_53 : decode cX9_load 53 = .ok (.iconst 0, 1) := by decide +kernel
theorem dX9_load_54 : decode cX9_load 54 = .ok (.istore 5, 2) := by decide +kernel
theorem dX9_load_56 : decode cX9_load 56 = .ok (.iload 5, 2) := by decide +kernel
theorem dX9_load_58 : decode cX9_load 58 = .ok (.bipush 24, 2) := by decide +kernel
theorem dX9_load_60 : decode cX9_load 60 = .ok (.if_icmp .ge 87, 3) := by decide +kernel
theorem dX9_load_63 : decode cX9_load 63 = .ok (.iload 5, 2) := by decide +kernel
theorem dX9_load_65 : decode cX9_load 65 = .ok (.aload_n 0, 1) := by decide +kernel
theorem dX9_load_66 : decode cX9_load 66 = .ok (.getfield 33, 3) := by decide +kernel
theorem dX9_load_69 : decode cX9_load 69 = .ok (.iload_n 1, 1) := by decide +kernel
theorem dX9_load_70 : decode cX9_load 70 = .ok (.invokevirtual 309, 3) := by decide +kernel
theorem dX9_load_73 : decode cX9_load 73 = .ok (.if_icmp .ge 74, 3) := by decide +kernel
theorem dX9_load_76 : decode cX9_load 76 = .ok (.aload_n 0, 1) := by decide +kernel
theorem dX9_load_77 : decode cX9_load 77 = .ok (.getfield 33, 3) := by decide +kernel
theorem dX9_load_80 : decode cX9_load 80 = .ok (.iload_n 1, 1) := by decide +kernel
theorem dX9_load_81 : decode cX9_load 81 = .ok (.iload 5, 2) := by decide +kernel
theorem dX9_load_83 : decode cX9_load 83 = .ok (.invokevirtual 327, 3) := by decide +kernel
theorem dX9_load_86 : decode cX9_load 86 = .ok (.istore 6, 2) := by decide +kernel
theorem dX9_load_88 : decode cX9_load 88 = .ok (.iload 6, 2) := by decide +kernel
theorem dX9_load_90 : decode cX9_load 90 = .ok (.iconst (-1), 1) := by decide +kernel
theorem dX9_load_91 : decode cX9_load 91 = .ok (.if_icmp .ne 6, 3) := by decide +kernel
theorem dX9_load_94 : decode cX9_load 94 = .ok (.goto 47, 3) := by decide +kernel
theorem dX9_load_97 : decode cX9_load 97 = .ok (.iload 6, 2) := by decide +kernel
theorem dX9_load_99 : decode cX9_load 99 = .ok (.invokestatic 54, 3) := by decide +kernel
theorem dX9_load_102 : decode cX9_load 102 = .ok (.ifCond .eq 45, 3) := by decide +kernel
theorem dX9_load_105 : decode cX9_load 105 = .ok (.aload_n 0, 1) := by decide +kernel
theorem dX9_load_106 : decode cX9_load 106 = .ok (.getfield 10, 3) := by decide +kernel
theorem dX9_load_109 : decode cX9_load 109 = .ok (.getfield 89, 3) := by decide +kernel
theorem dX9_load_112 : decode cX9_load 112 = .ok (.invokevirtual 93, 3) := by decide +kernel
theorem dX9_load_115 : decode cX9_load 115 = .ok (.ifCond .ne 6, 3) := by decide +kernel
theorem dX9_load_118 : decode cX9_load 118 = .ok (.goto 29, 3) := by decide +kernel
theorem dX9_load_121 : decode cX9_load 121 = .ok (.aload_n 0, 1) := by decide +kernel
theorem dX9_load_122 : decode cX9_load 122 = .ok (.getfield 10, 3) := by decide +kernel
theorem dX9_load_125 : decode cX9_load 125 = .ok (.getfield 89, 3) := by decide +kernel
theorem dX9_load_128 : decode cX9_load 128 = .ok (.iload_n 2, 1) := by decide +kernel
theorem dX9_load_129 : decode cX9_load 129 = .ok (.iload 6, 2) := by decide +kernel
theorem dX9_load_131 : decode cX9_load 131 = .ok (.iload_n 3, 1) := by decide +kernel
theorem dX9_load_132 : decode cX9_load 132 = .ok (.iload 5, 2) := by decide +kernel
theorem dX9_load_134 : decode cX9_load 134 = .ok (.invokevirtual 105, 3) := by decide +kernel
theorem dX9_load_137 : decode cX9_load 137 = .ok (.pop, 1) := by decide +kernel
theorem dX9_load_138 : decode cX9_load 138 = .ok (.iinc 4 1, 3) := by decide +kernel
theorem dX9_load_141 : decode cX9_load 141 = .ok (.iinc 5 1, 3) := by decide +kernel
theorem dX9_load_144 : decode cX9_load 144 = .ok (.goto (-88), 3) := by decide +kernel
theorem dX9_load_147 : decode cX9_load 147 = .ok (.iload 4, 2) := by decide +kernel
theorem dX9_load_149 : decode cX9_load 149 = .ok (.ireturn, 1) := by decide +kernel
theorem dX9_judge_0 : decode cX9_judge 0 = .ok (.iload_n 1, 1) := by decide +kernel
theorem dX9_judge_1 : decode cX9_judge 1 = .ok (.invokestatic 300, 3) := by decide +kernel
theorem dX9_judge_4 : decode cX9_judge 4 = .ok (.ifCond .ne 9, 3) := by decide +kernel
theorem dX9_judge_7 : decode cX9_judge 7 = .ok (.aload_n 0, 1) := by decide +kernel
theorem dX9_judge_8 : decode cX9_judge 8 = .ok (.iconst 0, 1) := by decide +kernel
theorem dX9_judge_9 : decode cX9_judge 9 = .ok (.invokevirtual 58, 3) := by decide +kernel
theorem dX9_judge_12 : decode cX9_judge 12 = .ok (.ireturn, 1) := by decide +kernel
theorem dX9_judge_13 : decode cX9_judge 13 = .ok (.aload_n 0, 1) := by decide +kernel
theorem dX9_judge_14 : decode cX9_judge 14 = .ok (.getfield 33, 3) := by decide +kernel
theorem dX9_judge_17 : decode cX9_judge 17 = .ok (.iload_n 1, 1) := by decide +kernel
theorem dX9_judge_18 : decode cX9_judge 18 = .ok (.invokevirtual 311, 3) := by decide +kernel
theorem dX9_judge_21 : decode cX9_judge 21 = .ok (.ifCond .eq 9, 3) := by decide +kernel
theorem dX9_judge_24 : decode cX9_judge 24 = .ok (.aload_n 0, 1) := by decide +kernel
theorem dX9_judge_25 : decode cX9_judge 25 = .ok (.iconst 5, 1) := by decide +kernel
theorem dX9_judge_26 : decode cX9_judge 26 = .ok (.invokevirtual 58, 3) := by decide +kernel
theorem dX9_judge_29 : decode cX9_judge 29 = .ok (.ireturn, 1) := by decide +kernel
theorem dX9_judge_30 : decode cX9_judge 30 = .ok (.iload_n 2, 1) := by decide +kernel
theorem dX9_judge_31 : decode cX9_judge 31 = .ok (.invokestatic 83, 3) := by decide +kernel
theorem dX9_judge_34 : decode cX9_judge 34 = .ok (.ifCond .eq 10, 3) := by decide +kernel
theorem dX9_judge_37 : decode cX9_judge 37 = .ok (.iload_n 3, 1) := by decide +kernel
theorem dX9_judge_38 : decode cX9_judge 38 = .ok (.invokestatic 126, 3) := by decide +kernel
theorem dX9_judge_41 : decode cX9_judge 41 = .ok (.ifCond .ne 9, 3) := by decide +kernel
theorem dX9_judge_44 : decode cX9_judge 44 = .ok (.aload_n 0, 1) := by decide +kernel
theorem dX9_judge_45 : decode cX9_judge 45 = .ok (.iconst 0, 1) := by decide +kernel
theorem dX9_judge_46 : decode cX9_judge 46 = .ok (.invokevirtual 58, 3) := by decide +kernel
theorem dX9_judge_49 : decode cX9_judge 49 = .ok (.ireturn, 1) := by decide +kernel
theorem dX9_judge_50 : decode cX9_judge 50 = .ok (.aload_n 0, 1) := by decide +kernel
theorem dX9_judge_51 : decode cX9_judge 51 = .ok (.getfield 10, 3) := by decide +kernel
theorem dX9_judge_54 : decode cX9_judge 54 = .ok (.getfield 137, 3) := by decide +kernel
theorem dX9_judge_57 : decode cX9_judge 57 = .ok (.iload_n 2, 1) := by decide +kernel
theorem dX9_judge_58 : decode cX9_judge 58 = .ok (.iload_n 3, 1) := by decide +kernel
theorem dX9_judge_59 : decode cX9_judge 59 = .ok (.invokevirtual 167, 3) := by decide +kernel
theorem dX9_judge_62 : decode cX9_judge 62 = .ok (.istore 4, 2) := by decide +kernel
theorem dX9_judge_64 : decode cX9_judge 64 = .ok (.aload_n 0, 1) := by decide +kernel
theorem dX9_judge_65 : decode cX9_judge 65 = .ok (.getfield 40, 3) := by decide +kernel
theorem dX9_judge_68 : decode cX9_judge 68 = .ok (.aload_n 0, 1) := by decide +kernel
theorem dX9_judge_69 : decode cX9_judge 69 = .ok (.getfield 10, 3) := by decide +kernel
theorem dX9_judge_72 : decode cX9_judge 72 = .ok (.iload_n 2, 1) := by decide +kernel
theorem dX9_judge_73 : decode cX9_judge 73 = .ok (.iload_n 3, 1) := by decide +kernel
theorem dX9_judge_74 : decode cX9_judge 74 = .ok (.iload 4, 2) := by decide +kernel
theorem dX9_judge_76 : decode cX9_judge 76 = .ok (.invokevirtual 330, 3) := by decide +kernel
theorem dX9_judge_79 : decode cX9_judge 79 = .ok (.aload_n 0, 1) := by decide +kernel
theorem dX9_judge_80 : decode cX9_judge 80 = .ok (.iload_n 1, 1) := by decide +kernel
theorem dX9_judge_81 : decode cX9_judge 81 = .ok (.invokevirtual 334, 3) := by decide +kernel
theorem dX9_judge_84 : decode cX9_judge 84 = .ok (.istore 5, 2) := by decide +kernel
theorem dX9_judge_86 : decode cX9_judge 86 = .ok (.iload 5, 2) := by decide +kernel
theorem dX9_judge_88 : decode cX9_judge 88 = .ok (.iconst (-1), 1) := by decide +kernel
theorem dX9_judge_89 : decode cX9_judge 89 = .ok (.if_icmp .eq 8, 3) := by decide +kernel
theorem dX9_judge_92 : decode cX9_judge 92 = .ok (.iconst 1, 1) := by decide +kernel
theorem dX9_judge_93 : decode cX9_judge 93 = .ok (.iload 5, 2) := by decide +kernel
theorem dX9_judge_95 : decode cX9_judge 95 = .ok (.iadd, 1) := by decide +kernel
theorem dX9_judge_96 : decode cX9_judge 96 = .ok (.ireturn, 1) := by decide +kernel
theorem dX9_judge_97 : decode cX9_judge 97 = .ok (.aload_n 0, 1) := by decide +kernel
theorem dX9_judge_98 : decode cX9_judge 98 = .ok (.getfield 33, 3) := by decide +kernel
theorem dX9_judge_101 : decode cX9_judge 101 = .ok (.iload_n 1, 1) := by decide +kernel
theorem dX9_judge_102 : decode cX9_judge 102 = .ok (.invokevirtual 309, 3) := by decide +kernel
theorem dX9_judge_105 : decode cX9_judge 105 = .ok (.bipush 24, 2) := by decide +kernel
theorem dX9_judge_107 : decode cX9_judge 107 = .ok (.if_icmp .eq 6, 3) := by decide +kernel
theorem dX9_judge_110 : decode cX9_judge 110 = .ok (.bipush 25, 2) := by decide +kernel
theorem dX9_judge_112 : decode cX9_judge 112 = .ok (.ireturn, 1) := by decide +kernel
theorem dX9_judge_113 : decode cX9_judge 113 = .ok (.aload_n 0, 1) := by decide +kernel
theorem dX9_judge_114 : decode cX9_judge 114 = .ok (.iload_n 1, 1) := by decide +kernel
theorem dX9_judge_115 : decode cX9_judge 115 = .ok (.iload 4, 2) := by decide +kernel
theorem dX9_judge_117 : decode cX9_judge 117 = .ok (.invokevirtual 337, 3) := by decide +kernel
theorem dX9_judge_120 : decode cX9_judge 120 = .ok (.istore 6, 2) := by decide +kernel
theorem dX9_judge_122 : decode cX9_judge 122 = .ok (.iload 6, 2) := by decide +kernel
theorem dX9_judge_124 : decode cX9_judge 124 = .ok (.iconst (-1), 1) := by decide +kernel
theorem dX9_judge_125 : decode cX9_judge 125 = .ok (.if_icmp .ne 7, 3) := by decide +kernel
theorem dX9_judge_128 : decode cX9_judge 128 = .ok (.iconst 0, 1) := by decide +kernel
theorem dX9_judge_129 : decode cX9_judge 129 = .ok (.goto 8, 3) := by decide +kernel
theorem dX9_judge_132 : decode cX9_judge 132 = .ok (.bipush 26, 2) := by decide +kernel
theorem dX9_judge_134 : decode cX9_judge 134 = .ok (.iload 6, 2) := by decide +kernel
theorem dX9_judge_136 : decode cX9_judge 136 = .ok (.iadd, 1) := by decide +kernel
theorem dX9_judge_137 : decode cX9_judge 137 = .ok (.ireturn, 1) := by decide +kernel
theorem dX9_image_0 : decode cX9_image 0 = .ok (.aload_n 0, 1) := by decide +kernel
theorem dX9_image_1 : decode cX9_image 1 = .ok (.getfield 16, 3) := by decide +kernel
theorem dX9_image_4 : decode cX9_image 4 = .ok (.aload_n 0, 1) := by decide +kernel
theorem dX9_image_5 : decode cX9_image 5 = .ok (.getfield 10, 3) := by decide +kernel
theorem dX9_image_8 : decode cX9_image 8 = .ok (.invokevirtual 340, 3) := by decide +kernel
theorem dX9_image_11 : decode cX9_image 11 = .ok (.aload_n 0, 1) := by decide +kernel
theorem dX9_image_12 : decode cX9_image 12 = .ok (.iconst 1, 1) := by decide +kernel
theorem dX9_image_13 : decode cX9_image 13 = .ok (.putfield 344, 3) := by decide +kernel
theorem dX9_image_16 : decode cX9_image 16 = .ok (.iconst 1, 1) := by decide +kernel
theorem dX9_image_17 : decode cX9_image 17 = .ok (.ireturn, 1) := by decide +kernel
theorem dX9_undo_0 : decode cX9_undo 0 = .ok (.aload_n 0, 1) := by decide +kernel
theorem dX9_undo_1 : decode cX9_undo 1 = .ok (.getfield 344, 3) := by decide +kernel
theorem dX9_undo_4 : decode cX9_undo 4 = .ok (.ifCond .ne 9, 3) := by decide +kernel
theorem dX9_undo_7 : decode cX9_undo 7 = .ok (.aload_n 0, 1) := by decide +kernel
theorem dX9_undo_8 : decode cX9_undo 8 = .ok (.iconst 3, 1) := by decide +kernel
theorem dX9_undo_9 : decode cX9_undo 9 = .ok (.invokevirtual 58, 3) := by decide +kernel
theorem dX9_undo_12 : decode cX9_undo 12 = .ok (.ireturn, 1) := by decide +kernel
theorem dX9_undo_13 : decode cX9_undo 13 = .ok (.aload_n 0, 1) := by decide +kernel
theorem dX9_undo_14 : decode cX9_undo 14 = .ok (.getfield 10, 3) := by decide +kernel
theorem dX9_undo_17 : decode cX9_undo 17 = .ok (.aload_n 0, 1) := by decide +kernel
theorem dX9_undo_18 : decode cX9_undo 18 = .ok (.getfield 16, 3) := by decide +kernel
theorem dX9_undo_21 : decode cX9_undo 21 = .ok (.invokevirtual 340, 3) := by decide +kernel
theorem dX9_undo_24 : decode cX9_undo 24 = .ok (.aload_n 0, 1) := by decide +kernel
theorem dX9_undo_25 : decode cX9_undo 25 = .ok (.getfield 10, 3) := by decide +kernel
theorem dX9_undo_28 : decode cX9_undo 28 = .ok (.getfield 137, 3) := by decide +kernel
theorem dX9_undo_31 : decode cX9_undo 31 = .ok (.invokevirtual 347, 3) := by decide +kernel
theorem dX9_undo_34 : decode cX9_undo 34 = .ok (.ireturn, 1) := by decide +kernel
theorem dX9_tear_0 : decode cX9_tear 0 = .ok (.aload_n 0, 1) := by decide +kernel
theorem dX9_tear_1 : decode cX9_tear 1 = .ok (.getfield 344, 3) := by decide +kernel
theorem dX9_tear_4 : decode cX9_tear 4 = .ok (.ifCond .eq 7, 3) := by decide +kernel
theorem dX9_tear_7 : decode cX9_tear 7 = .ok (.iconst 1, 1) := by decide +kernel
theorem dX9_tear_8 : decode cX9_tear 8 = .ok (.goto 4, 3) := by decide +kernel
theorem dX9_tear_11 : decode cX9_tear 11 = .ok (.iconst 0, 1) := by decide +kernel
theorem dX9_tear_12 : decode cX9_tear 12 = .ok (.istore_n 1, 1) := by decide +kernel
theorem dX9_tear_13 : decode cX9_tear 13 = .ok (.aload_n 0, 1) := by decide +kernel
theorem dX9_tear_14 : decode cX9_tear 14 = .ok (.iconst 0, 1) := by decide +kernel
theorem dX9_tear_15 : decode cX9_tear 15 = .ok (.putfield 344, 3) := by decide +kernel
theorem dX9_tear_18 : decode cX9_tear 18 = .ok (.iload_n 1, 1) := by decide +kernel
theorem dX9_tear_19 : decode cX9_tear 19 = .ok (.ireturn, 1) := by decide +kernel
