theorem dX0_init_0 : decode cX0_init 0 = .ok (.aload_n 0, 1) := by decide +kernel
theorem dX0_init_1 : decode cX0_init 1 = .ok (.invokespecial 3, 3) := by decide +kernel
theorem dX0_init_4 : decode cX0_init 4 = .ok (.aload_n 0, 1) := by decide +kernel
theorem dX0_init_5 : decode cX0_init 5 = .ok (.new 9, 3) := by decide +kernel
theorem dX0_init_8 : decode cX0_init 8 = .ok (.dup, 1) := by decide +kernel
theorem dX0_init_9 : decode cX0_init 9 = .ok (.invokespecial 11, 3) := by decide +kernel
theorem dX0_init_12 : decode cX0_init 12 = .ok (.putfield 12, 3) := by decide +kernel
theorem dX0_init_15 : decode cX0_init 15 = .ok (.aload_n 0, 1) := by decide +kernel
theorem dX0_init_16 : decode cX0_init 16 = .ok (.new 18, 3) := by decide +kernel
theorem dX0_init_19 : decode cX0_init 19 = .ok (.dup, 1) := by decide +kernel
theorem dX0_init_20 : decode cX0_init 20 = .ok (.invokespecial 20, 3) := by decide +kernel
theorem dX0_init_23 : decode cX0_init 23 = .ok (.putfield 21, 3) := by decide +kernel
theorem dX0_init_26 : decode cX0_init 26 = .ok (.aload_n 0, 1) := by decide +kernel
theorem dX0_init_27 : decode cX0_init 27 = .ok (.new 25, 3) := by decide +kernel
theorem dX0_init_30 : decode cX0_init 30 = .ok (.dup, 1) := by decide +kernel
theorem dX0_init_31 : decode cX0_init 31 = .ok (.invokespecial 27, 3) := by decide +kernel
theorem dX0_init_34 : decode cX0_init 34 = .ok (.putfield 28, 3) := by decide +kernel
theorem dX0_init_37 : decode cX0_init 37 = .ok (.aload_n 0, 1) := by decide +kernel
theorem dX0_init_38 : decode cX0_init 38 = .ok (.new 32, 3) := by decide +kernel
theorem dX0_init_41 : decode cX0_init 41 = .ok (.dup, 1) := by decide +kernel
theorem dX0_init_42 : decode cX0_init 42 = .ok (.invokespecial 34, 3) := by decide +kernel
theorem dX0_init_45 : decode cX0_init 45 = .ok (.putfield 35, 3) := by decide +kernel
theorem dX0_init_48 : decode cX0_init 48 = .ok (.aload_n 0, 1) := by decide +kernel
theorem dX0_init_49 : decode cX0_init 49 = .ok (.bipush 6, 2) := by decide +kernel
theorem dX0_init_51 : decode cX0_init 51 = .ok (.newarray .int, 2) := by decide +kernel
theorem dX0_init_53 : decode cX0_init 53 = .ok (.putfield 39, 3) := by decide +kernel
theorem dX0_init_56 : decode cX0_init 56 = .ok (.aload_n 0, 1) := by decide +kernel
theorem dX0_init_57 : decode cX0_init 57 = .ok (.bipush 10, 2) := by decide +kernel
theorem dX0_init_59 : decode cX0_init 59 = .ok (.newarray .int, 2) := by decide +kernel
theorem dX0_init_61 : decode cX0_init 61 = .ok (.putfield 43, 3) := by decide +kernel
theorem dX0_init_64 : decode cX0_init 64 = .ok (.aload_n 0, 1) := by decide +kernel
theorem dX0_init_65 : decode cX0_init 65 = .ok (.iconst 1, 1) := by decide +kernel
theorem dX0_init_66 : decode cX0_init 66 = .ok (.putfield 46, 3) := by decide +kernel
theorem dX0_init_69 : decode cX0_init 69 = .ok (.iconst 0, 1) := by decide +kernel
theorem dX0_init_70 : decode cX0_init 70 = .ok (.istore_n 1, 1) := by decide +kernel
theorem dX0_init_71 : decode cX0_init 71 = .ok (.iload_n 1, 1) := by decide +kernel
theorem dX0_init_72 : decode cX0_init 72 = .ok (.bipush 6, 2) := by decide +kernel
theorem dX0_init_74 : decode cX0_init 74 = .ok (.if_icmp .ge 16, 3) := by decide +kernel
theorem dX0_init_77 : decode cX0_init 77 = .ok (.aload_n 0, 1) := by decide +kernel
theorem dX0_init_78 : decode cX0_init 78 = .ok (.getfield 39, 3) := by decide +kernel
theorem dX0_init_81 : decode cX0_init 81 = .ok (.iload_n 1, 1) := by decide +kernel
theorem dX0_init_82 : decode cX0_init 82 = .ok (.iconst (-1), 1) := by decide +kernel
theorem dX0_init_83 : decode cX0_init 83 = .ok (.iastore, 1) := by decide +kernel
theorem dX0_init_84 : decode cX0_init 84 = .ok (.iinc 1 1, 3) := by decide +kernel
theorem dX0_init_87 : decode cX0_init 87 = .ok (.goto (-16), 3) := by decide +kernel
theorem dX0_init_90 : decode cX0_init 90 = .ok (.iconst 0, 1) := by decide +kernel
theorem dX0_init_91 : decode cX0_init 91 = .ok (.istore_n 1, 1) := by decide +kernel
theorem dX0_init_92 : decode cX0_init 92 = .ok (.iload_n 1, 1) := by decide +kernel
theorem dX0_init_93 : decode cX0_init 93 = .ok (.bipush 10, 2) := by decide +kernel
theorem dX0_init_95 : decode cX0_init 95 = .ok (.if_icmp .ge 16, 3) := by decide +kernel
theorem dX0_init_98 : decode cX0_init 98 = .ok (.aload_n 0, 1) := by decide +kernel
theorem dX0_init_99 : decode cX0_init 99 = .ok (.getfield 43, 3) := by decide +kernel
theorem dX0_init_102 : decode cX0_init 102 = .ok (.iload_n 1, 1) := by decide +kernel
theorem dX0_init_103 : decode cX0_init 103 = .ok (.iconst (-1), 1) := by decide +kernel
theorem dX0_init_104 : decode cX0_init 104 = .ok (.iastore, 1) := by decide +kernel
theorem dX0_init_105 : decode cX0_init 105 = .ok (.iinc 1 1, 3) := by decide +kernel
theorem dX0_init_108 : decode cX0_init 108 = .ok (.goto (-16), 3) := by decide +kernel
theorem dX0_init_111 : decode cX0_init 111 = .ok (.return_, 1) := by decide +kernel
theorem dX0_draw_0 : decode cX0_draw 0 = .ok (.aload_n 0, 1) := by decide +kernel
theorem dX0_draw_1 : decode cX0_draw 1 = .ok (.aload_n 0, 1) := by decide +kernel
theorem dX0_draw_2 : decode cX0_draw 2 = .ok (.getfield 46, 3) := by decide +kernel
theorem dX0_draw_5 : decode cX0_draw 5 = .ok (.ldc 50, 2) := by decide +kernel
theorem dX0_draw_7 : decode cX0_draw 7 = .ok (.imul, 1) := by decide +kernel
theorem dX0_draw_8 : decode cX0_draw 8 = .ok (.sipush 12345, 3) := by decide +kernel
theorem dX0_draw_11 : decode cX0_draw 11 = .ok (.iadd, 1) := by decide +kernel
theorem dX0_draw_12 : decode cX0_draw 12 = .ok (.putfield 46, 3) := by decide +kernel
theorem dX0_draw_15 : decode cX0_draw 15 = .ok (.aload_n 0, 1) := by decide +kernel
theorem dX0_draw_16 : decode cX0_draw 16 = .ok (.getfield 46, 3) := by decide +kernel
theorem dX0_draw_19 : decode cX0_draw 19 = .ok (.bipush 8, 2) := by decide +kernel
theorem dX0_draw_21 : decode cX0_draw 21 = .ok (.iushr, 1) := by decide +kernel
theorem dX0_draw_22 : decode cX0_draw 22 = .ok (.ireturn, 1) := by decide +kernel
theorem dX0_badPlaces_0 : decode cX0_badPlaces 0 = .ok (.aload_n 0, 1) := by decide +kernel
theorem dX0_badPlaces_1 : decode cX0_badPlaces 1 = .ok (.getfield 28, 3) := by decide +kernel
theorem dX0_badPlaces_4 : decode cX0_badPlaces 4 = .ok (.iload_n 1, 1) := by decide +kernel
theorem dX0_badPlaces_5 : decode cX0_badPlaces 5 = .ok (.iconst 2, 1) := by decide +kernel
theorem dX0_badPlaces_6 : decode cX0_badPlaces 6 = .ok (.invokevirtual 51, 3) := by decide +kernel
theorem dX0_badPlaces_9 : decode cX0_badPlaces 9 = .ok (.istore_n 2, 1) := by decide +kernel
theorem dX0_badPlaces_10 : decode cX0_badPlaces 10 = .ok (.aload_n 0, 1) := by decide +kernel
theorem dX0_badPlaces_11 : decode cX0_badPlaces 11 = .ok (.getfield 28, 3) := by decide +kernel
theorem dX0_badPlaces_14 : decode cX0_badPlaces 14 = .ok (.iload_n 1, 1) := by decide +kernel
theorem dX0_badPlaces_15 : decode cX0_badPlaces 15 = .ok (.iconst 0, 1) := by decide +kernel
theorem dX0_badPlaces_16 : decode cX0_badPlaces 16 = .ok (.invokevirtual 51, 3) := by decide +kernel
theorem dX0_badPlaces_19 : decode cX0_badPlaces 19 = .ok (.tableswitch 64 0 5 #[37, 47, 64, 64, 51, 37], 37) := by decide +kernel
theorem dX0_badPlaces_56 : decode cX0_badPlaces 56 = .ok (.sipush 255, 3) := by decide +kernel
theorem dX0_badPlaces_59 : decode cX0_badPlaces 59 = .ok (.iconst 1, 1) := by decide +kernel
theorem dX0_badPlaces_60 : decode cX0_badPlaces 60 = .ok (.iload_n 2, 1) := by decide +kernel
theorem dX0_badPlaces_61 : decode cX0_badPlaces 61 = .ok (.ishl, 1) := by decide +kernel
theorem dX0_badPlaces_62 : decode cX0_badPlaces 62 = .ok (.iconst (-1), 1) := by decide +kernel
theorem dX0_badPlaces_63 : decode cX0_badPlaces 63 = .ok (.ixor, 1) := by decide +kernel
theorem dX0_badPlaces_64 : decode cX0_badPlaces 64 = .ok (.iand, 1) := by decide +kernel
theorem dX0_badPlaces_65 : decode cX0_badPlaces 65 = .ok (.ireturn, 1) := by decide +kernel
theorem dX0_badPlaces_66 : decode cX0_badPlaces 66 = .ok (.iconst 1, 1) := by decide +kernel
theorem dX0_badPlaces_67 : decode cX0_badPlaces 67 = .ok (.iload_n 2, 1) := by decide +kernel
theorem dX0_badPlaces_68 : decode cX0_badPlaces 68 = .ok (.ishl, 1) := by decide +kernel
theorem dX0_badPlaces_69 : decode cX0_badPlaces 69 = .ok (.ireturn, 1) := by decide +kernel
theorem dX0_badPlaces_70 : decode cX0_badPlaces 70 = .ok (.iconst 1, 1) := by decide +kernel
theorem dX0_badPlaces_71 : decode cX0_badPlaces 71 = .ok (.iload_n 2, 1) := by decide +kernel
theorem dX0_badPlaces_72 : decode cX0_badPlaces 72 = .ok (.ishl, 1) := by decide +kernel
theorem dX0_badPlaces_73 : decode cX0_badPlaces 73 = .ok (.aload_n 0, 1) := by decide +kernel
theorem dX0_badPlaces_74 : decode cX0_badPlaces 74 = .ok (.getfield 12, 3) := by decide +kernel
theorem dX0_badPlaces_77 : decode cX0_badPlaces 77 = .ok (.iload_n 2, 1) := by decide +kernel
theorem dX0_badPlaces_78 : decode cX0_badPlaces 78 = .ok (.invokevirtual 55, 3) := by decide +kernel
theorem dX0_badPlaces_81 : decode cX0_badPlaces 81 = .ok (.ior, 1) := by decide +kernel
theorem dX0_badPlaces_82 : decode cX0_badPlaces 82 = .ok (.ireturn, 1) := by decide +kernel
theorem dX0_badPlaces_83 : decode cX0_badPlaces 83 = .ok (.iconst 0, 1) := by decide +kernel
theorem dX0_badPlaces_84 : decode cX0_badPlaces 84 = .ok (.ireturn, 1) := by decide +kernel
theorem dX0_hearingsOfOthers_0 : decode cX0_hearingsOfOthers 0 = .ok (.iconst 0, 1) := by decide +kernel
theorem dX0_hearingsOfOthers_1 : decode cX0_hearingsOfOthers 1 = .ok (.istore_n 3, 1) := by decide +kernel
theorem dX0_hearingsOfOthers_2 : decode cX0_hearingsOfOthers 2 = .ok (.iconst 0, 1) := by decide +kernel
theorem dX0_hearingsOfOthers_3 : decode cX0_hearingsOfOthers 3 = .ok (.istore 4, 2) := by decide +kernel
theorem dX0_hearingsOfOthers_5 : decode cX0_hearingsOfOthers 5 = .ok (.iload 4, 2) := by decide +kernel
theorem dX0_hearingsOfOthers_7 : decode cX0_hearingsOfOthers 7 = .ok (.bipush 6, 2) := by decide +kernel
theorem dX0_hearingsOfOthers_9 : decode cX0_hearingsOfOthers 9 = .ok (.if_icmp .ge 29, 3) := by decide +kernel
theorem dX0_hearingsOfOthers_12 : decode cX0_hearingsOfOthers 12 = .ok (.iload 4, 2) := by decide +kernel
theorem dX0_hearingsOfOthers_14 : decode cX0_hearingsOfOthers 14 = .ok (.iload_n 1, 1) := by decide +kernel
theorem dX0_hearingsOfOthers_15 : decode cX0_hearingsOfOthers 15 = .ok (.if_icmp .eq 17, 3) := by decide +kernel
theorem dX0_hearingsOfOthers_18 : decode cX0_hearingsOfOthers 18 = .ok (.aload_n 0, 1) := by decide +kernel
theorem dX0_hearingsOfOthers_19 : decode cX0_hearingsOfOthers 19 = .ok (.getfield 39, 3) := by decide +kernel
theorem dX0_hearingsOfOthers_22 : decode cX0_hearingsOfOthers 22 = .ok (.iload 4, 2) := by decide +kernel
theorem dX0_hearingsOfOthers_24 : decode cX0_hearingsOfOthers 24 = .ok (.iaload, 1) := by decide +kernel
theorem dX0_hearingsOfOthers_25 : decode cX0_hearingsOfOthers 25 = .ok (.iload_n 2, 1) := by decide +kernel
theorem dX0_hearingsOfOthers_26 : decode cX0_hearingsOfOthers 26 = .ok (.if_icmp .ne 6, 3) := by decide +kernel
theorem dX0_hearingsOfOthers_29 : decode cX0_hearingsOfOthers 29 = .ok (.iinc 3 1, 3) := by decide +kernel
theorem dX0_hearingsOfOthers_32 : decode cX0_hearingsOfOthers 32 = .ok (.iinc 4 1, 3) := by decide +kernel
theorem dX0_hearingsOfOthers_35 : decode cX0_hearingsOfOthers 35 = .ok (.goto (-30), 3) := by decide +kernel
theorem dX0_hearingsOfOthers_38 : decode cX0_hearingsOfOthers 38 = .ok (.iload_n 3, 1) := by decide +kernel
theorem dX0_hearingsOfOthers_39 : decode cX0_hearingsOfOthers 39 = .ok (.ireturn, 1) := by decide +kernel
theorem dX0_hearingCount_0 : decode cX0_hearingCount 0 = .ok (.iconst 0, 1) := by decide +kernel
theorem dX0_hearingCount_1 : decode cX0_hearingCount 1 = .ok (.istore_n 1, 1) := by decide +kernel
theorem dX0_hearingCount_2 : decode cX0_hearingCount 2 = .ok (.iconst 0, 1) := by decide +kernel
theorem dX0_hearingCount_3 : decode cX0_hearingCount 3 = .ok (.istore_n 2, 1) := by decide +kernel
theorem dX0_hearingCount_4 : decode cX0_hearingCount 4 = .ok (.iload_n 2, 1) := by decide +kernel
theorem dX0_hearingCount_5 : decode cX0_hearingCount 5 = .ok (.bipush 6, 2) := by decide +kernel
theorem dX0_hearingCount_7 : decode cX0_hearingCount 7 = .ok (.if_icmp .ge 22, 3) := by decide +kernel
theorem dX0_hearingCount_10 : decode cX0_hearingCount 10 = .ok (.aload_n 0, 1) := by decide +kernel
theorem dX0_hearingCount_11 : decode cX0_hearingCount 11 = .ok (.getfield 39, 3) := by decide +kernel
theorem dX0_hearingCount_14 : decode cX0_hearingCount 14 = .ok (.iload_n 2, 1) := by decide +kernel
theorem dX0_hearingCount_15 : decode cX0_hearingCount 15 = .ok (.iaload, 1) := by decide +kernel
theorem dX0_hearingCount_16 : decode cX0_hearingCount 16 = .ok (.iconst (-1), 1) := by decide +kernel
theorem dX0_hearingCount_17 : decode cX0_hearingCount 17 = .ok (.if_icmp .eq 6, 3) := by decide +kernel
theorem dX0_hearingCount_20 : decode cX0_hearingCount 20 = .ok (.iinc 1 1, 3) := by decide +kernel
theorem dX0_hearingCount_23 : decode cX0_hearingCount 23 = .ok (.iinc 2 1, 3) := by decide +kernel
theorem dX0_hearingCount_26 : decode cX0_hearingCount 26 = .ok (.goto (-22), 3) := by decide +kernel
theorem dX0_hearingCount_29 : decode cX0_hearingCount 29 = .ok (.iload_n 1, 1) := by decide +kernel
theorem dX0_hearingCount_30 : decode cX0_hearingCount 30 = .ok (.ireturn, 1) := by decide +kernel
theorem dX0_takeFrom_0 : decode cX0_takeFrom 0 = .ok (.aload_n 0, 1) := by decide +kernel
theorem dX0_takeFrom_1 : decode cX0_takeFrom 1 = .ok (.getfield 12, 3) := by decide +kernel
theorem dX0_takeFrom_4 : decode cX0_takeFrom 4 = .ok (.aload_n 1, 1) := by decide +kernel
theorem dX0_takeFrom_5 : decode cX0_takeFrom 5 = .ok (.getfield 12, 3) := by decide +kernel
theorem dX0_takeFrom_8 : decode cX0_takeFrom 8 = .ok (.invokevirtual 59, 3) := by decide +kernel
theorem dX0_takeFrom_11 : decode cX0_takeFrom 11 = .ok (.aload_n 0, 1) := by decide +kernel
theorem dX0_takeFrom_12 : decode cX0_takeFrom 12 = .ok (.getfield 21, 3) := by decide +kernel
theorem dX0_takeFrom_15 : decode cX0_takeFrom 15 = .ok (.aload_n 1, 1) := by decide +kernel
theorem dX0_takeFrom_16 : decode cX0_takeFrom 16 = .ok (.getfield 21, 3) := by decide +kernel
theorem dX0_takeFrom_19 : decode cX0_takeFrom 19 = .ok (.invokevirtual 63, 3) := by decide +kernel
theorem dX0_takeFrom_22 : decode cX0_takeFrom 22 = .ok (.aload_n 0, 1) := by decide +kernel
theorem dX0_takeFrom_23 : decode cX0_takeFrom 23 = .ok (.getfield 28, 3) := by decide +kernel
theorem dX0_takeFrom_26 : decode cX0_takeFrom 26 = .ok (.aload_n 1, 1) := by decide +kernel
theorem dX0_takeFrom_27 : decode cX0_takeFrom 27 = .ok (.getfield 28, 3) := by decide +kernel
theorem dX0_takeFrom_30 : decode cX0_takeFrom 30 = .ok (.invokevirtual 66, 3) := by decide +kernel
theorem dX0_takeFrom_33 : decode cX0_takeFrom 33 = .ok (.aload_n 0, 1) := by decide +kernel
theorem dX0_takeFrom_34 : decode cX0_takeFrom 34 = .ok (.getfield 35, 3) := by decide +kernel
theorem dX0_takeFrom_37 : decode cX0_takeFrom 37 = .ok (.aload_n 1, 1) := by decide +kernel
theorem dX0_takeFrom_38 : decode cX0_takeFrom 38 = .ok (.getfield 35, 3) := by decide +kernel
theorem dX0_takeFrom_41 : decode cX0_takeFrom 41 = .ok (.invokevirtual 69, 3) := by decide +kernel
theorem dX0_takeFrom_44 : decode cX0_takeFrom 44 = .ok (.aload_n 1, 1) := by decide +kernel
theorem dX0_takeFrom_45 : decode cX0_takeFrom 45 = .ok (.getfield 39, 3) := by decide +kernel
theorem dX0_takeFrom_48 : decode cX0_takeFrom 48 = .ok (.iconst 0, 1) := by decide +kernel
theorem dX0_takeFrom_49 : decode cX0_takeFrom 49 = .ok (.aload_n 0, 1) := by decide +kernel
theorem dX0_takeFrom_50 : decode cX0_takeFrom 50 = .ok (.getfield 39, 3) := by decide +kernel
theorem dX0_takeFrom_53 : decode cX0_takeFrom 53 = .ok (.iconst 0, 1) := by decide +kernel
theorem dX0_takeFrom_54 : decode cX0_takeFrom 54 = .ok (.bipush 6, 2) := by decide +kernel
theorem dX0_takeFrom_56 : decode cX0_takeFrom 56 = .ok (.invokestatic 72, 3) := by decide +kernel
theorem dX0_takeFrom_59 : decode cX0_takeFrom 59 = .ok (.aload_n 1, 1) := by decide +kernel
theorem dX0_takeFrom_60 : decode cX0_takeFrom 60 = .ok (.getfield 43, 3) := by decide +kernel
theorem dX0_takeFrom_63 : decode cX0_takeFrom 63 = .ok (.iconst 0, 1) := by decide +kernel
theorem dX0_takeFrom_64 : decode cX0_takeFrom 64 = .ok (.aload_n 0, 1) := by decide +kernel
theorem dX0_takeFrom_65 : decode cX0_takeFrom 65 = .ok (.getfield 43, 3) := by decide +kernel
theorem dX0_takeFrom_68 : decode cX0_takeFrom 68 = .ok (.iconst 0, 1) := by decide +kernel
theorem dX0_takeFrom_69 : decode cX0_takeFrom 69 = .ok (.bipush 10, 2) := by decide +kernel
theorem dX0_takeFrom_71 : decode cX0_takeFrom 71 = .ok (.invokestatic 72, 3) := by decide +kernel
theorem dX0_takeFrom_74 : decode cX0_takeFrom 74 = .ok (.aload_n 0, 1) := by decide +kernel
theorem dX0_takeFrom_75 : decode cX0_takeFrom 75 = .ok (.aload_n 1, 1) := by decide +kernel
theorem dX0_takeFrom_76 : decode cX0_takeFrom 76 = .ok (.getfield 46, 3) := by decide +kernel
theorem dX0_takeFrom_79 : decode cX0_takeFrom 79 = .ok (.putfield 46, 3) := by decide +kernel
theorem dX0_takeFrom_82 : decode cX0_takeFrom 82 = .ok (.return_, 1) := by decide +kernel
theorem dX1_init_0 : decode cX1_init 0 = .ok (.aload_n 0, 1) := by decide +kernel
theorem dX1_init_1 : decode cX1_init 1 = .ok (.invokespecial 3, 3) := by decide +kernel
theorem dX1_init_4 : decode cX1_init 4 = .ok (.aload_n 0, 1) := by decide +kernel
theorem dX1_init_5 : decode cX1_init 5 = .ok (.bipush 24, 2) := by decide +kernel
theorem dX1_init_7 : decode cX1_init 7 = .ok (.newarray .int, 2) := by decide +kernel
theorem dX1_init_9 : decode cX1_init 9 = .ok (.putfield 9, 3) := by decide +kernel
theorem dX1_init_12 : decode cX1_init 12 = .ok (.aload_n 0, 1) := by decide +kernel
theorem dX1_init_13 : decode cX1_init 13 = .ok (.bipush 8, 2) := by decide +kernel
theorem dX1_init_15 : decode cX1_init 15 = .ok (.newarray .int, 2) := by decide +kernel
theorem dX1_init_17 : decode cX1_init 17 = .ok (.putfield 15, 3) := by decide +kernel
theorem dX1_init_20 : decode cX1_init 20 = .ok (.aload_n 0, 1) := by decide +kernel
theorem dX1_init_21 : decode cX1_init 21 = .ok (.sipush 192, 3) := by decide +kernel
theorem dX1_init_24 : decode cX1_init 24 = .ok (.newarray .int, 2) := by decide +kernel
theorem dX1_init_26 : decode cX1_init 26 = .ok (.putfield 18, 3) := by decide +kernel
theorem dX1_init_29 : decode cX1_init 29 = .ok (.aload_n 0, 1) := by decide +kernel
theorem dX1_init_30 : decode cX1_init 30 = .ok (.sipush 24576, 3) := by decide +kernel
theorem dX1_init_33 : decode cX1_init 33 = .ok (.newarray .int, 2) := by decide +kernel
theorem dX1_init_35 : decode cX1_init 35 = .ok (.putfield 21, 3) := by decide +kernel
theorem dX1_init_38 : decode cX1_init 38 = .ok (.aload_n 0, 1) := by decide +kernel
theorem dX1_init_39 : decode cX1_init 39 = .ok (.sipush 24576, 3) := by decide +kernel
theorem dX1_init_42 : decode cX1_init 42 = .ok (.newarray .long, 2) := by decide +kernel
theorem dX1_init_44 : decode cX1_init 44 = .ok (.putfield 24, 3) := by decide +kernel
theorem dX1_init_47 : decode cX1_init 47 = .ok (.aload_n 0, 1) := by decide +kernel
theorem dX1_init_48 : decode cX1_init 48 = .ok (.sipush 8192, 3) := by decide +kernel
theorem dX1_init_51 : decode cX1_init 51 = .ok (.newarray .int, 2) := by decide +kernel
theorem dX1_init_53 : decode cX1_init 53 = .ok (.putfield 28, 3) := by decide +kernel
theorem dX1_init_56 : decode cX1_init 56 = .ok (.aload_n 0, 1) := by decide +kernel
theorem dX1_init_57 : decode cX1_init 57 = .ok (.sipush 8192, 3) := by decide +kernel
theorem dX1_init_60 : decode cX1_init 60 = .ok (.newarray .int, 2) := by decide +kernel
theorem dX1_init_62 : decode cX1_init 62 = .ok (.putfield 31, 3) := by decide +kernel
theorem dX1_init_65 : decode cX1_init 65 = .ok (.aload_n 0, 1) := by decide +kernel
theorem dX1_init_66 : decode cX1_init 66 = .ok (.bipush 8, 2) := by decide +kernel
theorem dX1_init_68 : decode cX1_init 68 = .ok (.newarray .int, 2) := by decide +kernel
theorem dX1_init_70 : decode cX1_init 70 = .ok (.putfield 34, 3) := by decide +kernel
theorem dX1_init_73 : decode cX1_init 73 = .ok (.return_, 1) := by decide +kernel
theorem dX1_prepare_0 : decode cX1_prepare 0 = .ok (.aload_n 1, 1) := by decide +kernel
theorem dX1_prepare_1 : decode cX1_prepare 1 = .ok (.getfield 37, 3) := by decide +kernel
theorem dX1_prepare_4 : decode cX1_prepare 4 = .ok (.iload_n 2, 1) := by decide +kernel
theorem dX1_prepare_5 : decode cX1_prepare 5 = .ok (.iload_n 3, 1) := by decide +kernel
theorem dX1_prepare_6 : decode cX1_prepare 6 = .ok (.aload_n 0, 1) := by decide +kernel
theorem dX1_prepare_7 : decode cX1_prepare 7 = .ok (.getfield 9, 3) := by decide +kernel
theorem dX1_prepare_10 : decode cX1_prepare 10 = .ok (.invokevirtual 43, 3) := by decide +kernel
theorem dX1_prepare_13 : decode cX1_prepare 13 = .ok (.iconst 0, 1) := by decide +kernel
theorem dX1_prepare_14 : decode cX1_prepare 14 = .ok (.istore 5, 2) := by decide +kernel
theorem dX1_prepare_16 : decode cX1_prepare 16 = .ok (.iload 5, 2) := by decide +kernel
theorem dX1_prepare_18 : decode cX1_prepare 18 = .ok (.bipush 8, 2) := by decide +kernel
theorem dX1_prepare_20 : decode cX1_prepare 20 = .ok (.if_icmp .ge 27, 3) := by decide +kernel
theorem dX1_prepare_23 : decode cX1_prepare 23 = .ok (.aload_n 0, 1) := by decide +kernel
theorem dX1_prepare_24 : decode cX1_prepare 24 = .ok (.getfield 15, 3) := by decide +kernel
theorem dX1_prepare_27 : decode cX1_prepare 27 = .ok (.iload 5, 2) := by decide +kernel
theorem dX1_prepare_29 : decode cX1_prepare 29 = .ok (.aload_n 1, 1) := by decide +kernel
theorem dX1_prepare_30 : decode cX1_prepare 30 = .ok (.getfield 49, 3) := by decide +kernel
theorem dX1_prepare_33 : decode cX1_prepare 33 = .ok (.iconst 1, 1) := by decide +kernel
theorem dX1_prepare_34 : decode cX1_prepare 34 = .ok (.iload 5, 2) := by decide +kernel
theorem dX1_prepare_36 : decode cX1_prepare 36 = .ok (.ishl, 1) := by decide +kernel
theorem dX1_prepare_37 : decode cX1_prepare 37 = .ok (.invokevirtual 53, 3) := by decide +kernel
theorem dX1_prepare_40 : decode cX1_prepare 40 = .ok (.iastore, 1) := by decide +kernel
theorem dX1_prepare_41 : decode cX1_prepare 41 = .ok (.iinc 5 1, 3) := by decide +kernel
theorem dX1_prepare_44 : decode cX1_prepare 44 = .ok (.goto (-28), 3) := by decide +kernel
theorem dX1_prepare_47 : decode cX1_prepare 47 = .ok (.iconst 0, 1) := by decide +kernel
theorem dX1_prepare_48 : decode cX1_prepare 48 = .ok (.istore 5, 2) := by decide +kernel
theorem dX1_prepare_50 : decode cX1_prepare 50 = .ok (.iload 5, 2) := by decide +kernel
theorem dX1_prepare_52 : decode cX1_prepare 52 = .ok (.sipush 192, 3) := by decide +kernel
theorem dX1_prepare_55 : decode cX1_prepare 55 = .ok (.if_icmp .ge 17, 3) := by decide +kernel
theorem dX1_prepare_58 : decode cX1_prepare 58 = .ok (.aload_n 0, 1) := by decide +kernel
theorem dX1_prepare_59 : decode cX1_prepare 59 = .ok (.getfield 18, 3) := by decide +kernel
theorem dX1_prepare_62 : decode cX1_prepare 62 = .ok (.iload 5, 2) := by decide +kernel
theorem dX1_prepare_64 : decode cX1_prepare 64 = .ok (.iconst 0, 1) := by decide +kernel
theorem dX1_prepare_65 : decode cX1_prepare 65 = .ok (.iastore, 1) := by decide +kernel
theorem dX1_prepare_66 : decode cX1_prepare 66 = .ok (.iinc 5 1, 3) := by decide +kernel
theorem dX1_prepare_69 : decode cX1_prepare 69 = .ok (.goto (-19), 3) := by decide +kernel
theorem dX1_prepare_72 : decode cX1_prepare 72 = .ok (.aload_n 0, 1) := by decide +kernel
theorem dX1_prepare_73 : decode cX1_prepare 73 = .ok (.iconst 0, 1) := by decide +kernel
theorem dX1_prepare_74 : decode cX1_prepare 74 = .ok (.putfield 59, 3) := by decide +kernel
theorem dX1_prepare_77 : decode cX1_prepare 77 = .ok (.aload_n 0, 1) := by decide +kernel
theorem dX1_prepare_78 : decode cX1_prepare 78 = .ok (.iconst 0, 1) := by decide +kernel
theorem dX1_prepare_79 : decode cX1_prepare 79 = .ok (.putfield 63, 3) := by decide +kernel
theorem dX1_prepare_82 : decode cX1_prepare 82 = .ok (.iconst 0, 1) := by decide +kernel
theorem dX1_prepare_83 : decode cX1_prepare 83 = .ok (.istore 5, 2) := by decide +kernel
theorem dX1_prepare_85 : decode cX1_prepare 85 = .ok (.iload 5, 2) := by decide +kernel
theorem dX1_prepare_87 : decode cX1_prepare 87 = .ok (.bipush 12, 2) := by decide +kernel
theorem dX1_prepare_89 : decode cX1_prepare 89 = .ok (.if_icmp .ge 26, 3) := by decide +kernel
theorem dX1_prepare_92 : decode cX1_prepare 92 = .ok (.iload 4, 2) := by decide +kernel
theorem dX1_prepare_94 : decode cX1_prepare 94 = .ok (.iload 5, 2) := by decide +kernel
theorem dX1_prepare_96 : decode cX1_prepare 96 = .ok (.invokestatic 66, 3) := by decide +kernel
theorem dX1_prepare_99 : decode cX1_prepare 99 = .ok (.ifCond .eq 10, 3) := by decide +kernel
theorem dX1_prepare_102 : decode cX1_prepare 102 = .ok (.aload_n 0, 1) := by decide +kernel
theorem dX1_prepare_103 : decode cX1_prepare 103 = .ok (.aload_n 1, 1) := by decide +kernel
theorem dX1_prepare_104 : decode cX1_prepare 104 = .ok (.iload 5, 2) := by decide +kernel
theorem dX1_prepare_106 : decode cX1_prepare 106 = .ok (.invokevirtual 70, 3) := by decide +kernel
theorem dX1_prepare_109 : decode cX1_prepare 109 = .ok (.iinc 5 1, 3) := by decide +kernel
theorem dX1_prepare_112 : decode cX1_prepare 112 = .ok (.goto (-27), 3) := by decide +kernel
theorem dX1_prepare_115 : decode cX1_prepare 115 = .ok (.return_, 1) := by decide +kernel
theorem dX1_obey_0 : decode cX1_obey 0 = .ok (.aload_n 1, 1) := by decide +kernel
theorem dX1_obey_1 : decode cX1_obey 1 = .ok (.iload_n 2, 1) := by decide +kernel
theorem dX1_obey_2 : decode cX1_obey 2 = .ok (.invokevirtual 74, 3) := by decide +kernel
theorem dX1_obey_5 : decode cX1_obey 5 = .ok (.istore_n 3, 1) := by decide +kernel
theorem dX1_obey_6 : decode cX1_obey 6 = .ok (.aload_n 1, 1) := by decide +kernel
theorem dX1_obey_7 : decode cX1_obey 7 = .ok (.getfield 77, 3) := by decide +kernel
theorem dX1_obey_10 : decode cX1_obey 10 = .ok (.iload_n 2, 1) := by decide +kernel
theorem dX1_obey_11 : decode cX1_obey 11 = .ok (.invokevirtual 81, 3) := by decide +kernel
theorem dX1_obey_14 : decode cX1_obey 14 = .ok (.istore 4, 2) := by decide +kernel
theorem dX1_obey_16 : decode cX1_obey 16 = .ok (.aload_n 1, 1) := by decide +kernel
theorem dX1_obey_17 : decode cX1_obey 17 = .ok (.getfield 77, 3) := by decide +kernel
theorem dX1_obey_20 : decode cX1_obey 20 = .ok (.iload_n 2, 1) := by decide +kernel
theorem dX1_obey_21 : decode cX1_obey 21 = .ok (.iconst 2, 1) := by decide +kernel
theorem dX1_obey_22 : decode cX1_obey 22 = .ok (.invokevirtual 86, 3) := by decide +kernel
theorem dX1_obey_25 : decode cX1_obey 25 = .ok (.istore 5, 2) := by decide +kernel
theorem dX1_obey_27 : decode cX1_obey 27 = .ok (.aload_n 1, 1) := by decide +kernel
theorem dX1_obey_28 : decode cX1_obey 28 = .ok (.getfield 77, 3) := by decide +kernel
theorem dX1_obey_31 : decode cX1_obey 31 = .ok (.iload_n 2, 1) := by decide +kernel
theorem dX1_obey_32 : decode cX1_obey 32 = .ok (.iconst 4, 1) := by decide +kernel
theorem dX1_obey_33 : decode cX1_obey 33 = .ok (.invokevirtual 86, 3) := by decide +kernel
theorem dX1_obey_36 : decode cX1_obey 36 = .ok (.istore 6, 2) := by decide +kernel
theorem dX1_obey_38 : decode cX1_obey 38 = .ok (.iload 4, 2) := by decide +kernel
theorem dX1_obey_40 : decode cX1_obey 40 = .ok (.ifCond .le 15, 3) := by decide +kernel
theorem dX1_obey_43 : decode cX1_obey 43 = .ok (.aload_n 0, 1) := by decide +kernel
theorem dX1_obey_44 : decode cX1_obey 44 = .ok (.getfield 63, 3) := by decide +kernel
theorem dX1_obey_47 : decode cX1_obey 47 = .ok (.iconst 5, 1) := by decide +kernel
theorem dX1_obey_48 : decode cX1_obey 48 = .ok (.if_icmp .ge 7, 3) := by decide +kernel
theorem dX1_obey_51 : decode cX1_obey 51 = .ok (.iconst 1, 1) := by decide +kernel
theorem dX1_obey_52 : decode cX1_obey 52 = .ok (.goto 4, 3) := by decide +kernel
theorem dX1_obey_55 : decode cX1_obey 55 = .ok (.iconst 0, 1) := by decide +kernel
theorem dX1_obey_56 : decode cX1_obey 56 = .ok (.istore 7, 2) := by decide +kernel
theorem dX1_obey_58 : decode cX1_obey 58 = .ok (.iload 7, 2) := by decide +kernel
theorem dX1_obey_60 : decode cX1_obey 60 = .ok (.ifCond .eq 14, 3) := by decide +kernel
theorem dX1_obey_63 : decode cX1_obey 63 = .ok (.iconst 1, 1) := by decide +kernel
theorem dX1_obey_64 : decode cX1_obey 64 = .ok (.iconst 2, 1) := by decide +kernel
theorem dX1_obey_65 : decode cX1_obey 65 = .ok (.aload_n 0, 1) := by decide +kernel
theorem dX1_obey_66 : decode cX1_obey 66 = .ok (.getfield 63, 3) := by decide +kernel
theorem dX1_obey_69 : decode cX1_obey 69 = .ok (.imul, 1) := by decide +kernel
theorem dX1_obey_70 : decode cX1_obey 70 = .ok (.ishl, 1) := by decide +kernel
theorem dX1_obey_71 : decode cX1_obey 71 = .ok (.goto 4, 3) := by decide +kernel
theorem dX1_obey_74 : decode cX1_obey 74 = .ok (.iconst 0, 1) := by decide +kernel
theorem dX1_obey_75 : decode cX1_obey 75 = .ok (.istore 8, 2) := by decide +kernel
theorem dX1_obey_77 : decode cX1_obey 77 = .ok (.aload_n 1, 1) := by decide +kernel
theorem dX1_obey_78 : decode cX1_obey 78 = .ok (.getfield 77, 3) := by decide +kernel
theorem dX1_obey_81 : decode cX1_obey 81 = .ok (.iload_n 2, 1) := by decide +kernel
theorem dX1_obey_82 : decode cX1_obey 82 = .ok (.iconst 3, 1) := by decide +kernel
theorem dX1_obey_83 : decode cX1_obey 83 = .ok (.invokevirtual 86, 3) := by decide +kernel
theorem dX1_obey_86 : decode cX1_obey 86 = .ok (.istore 9, 2) := by decide +kernel
theorem dX1_obey_88 : decode cX1_obey 88 = .ok (.iload 9, 2) := by decide +kernel
theorem dX1_obey_90 : decode cX1_obey 90 = .ok (.iload 6, 2) := by decide +kernel
theorem dX1_obey_92 : decode cX1_obey 92 = .ok (.if_icmp .gt 40, 3) := by decide +kernel
theorem dX1_obey_95 : decode cX1_obey 95 = .ok (.aload_n 0, 1) := by decide +kernel
theorem dX1_obey_96 : decode cX1_obey 96 = .ok (.getfield 9, 3) := by decide +kernel
theorem dX1_obey_99 : decode cX1_obey 99 = .ok (.iload 9, 2) := by decide +kernel
theorem dX1_obey_101 : decode cX1_obey 101 = .ok (.dup2, 1) := by decide +kernel
theorem dX1_obey_102 : decode cX1_obey 102 = .ok (.iaload, 1) := by decide +kernel
theorem dX1_obey_103 : decode cX1_obey 103 = .ok (.iload_n 3, 1) := by decide +kernel
theorem dX1_obey_104 : decode cX1_obey 104 = .ok (.iconst (-1), 1) := by decide +kernel
theorem dX1_obey_105 : decode cX1_obey 105 = .ok (.ixor, 1) := by decide +kernel
theorem dX1_obey_106 : decode cX1_obey 106 = .ok (.iand, 1) := by decide +kernel
theorem dX1_obey_107 : decode cX1_obey 107 = .ok (.iastore, 1) := by decide +kernel
theorem dX1_obey_108 : decode cX1_obey 108 = .ok (.aload_n 0, 1) := by decide +kernel
theorem dX1_obey_109 : decode cX1_obey 109 = .ok (.getfield 18, 3) := by decide +kernel
theorem dX1_obey_112 : decode cX1_obey 112 = .ok (.iload 9, 2) := by decide +kernel
theorem dX1_obey_114 : decode cX1_obey 114 = .ok (.bipush 8, 2) := by decide +kernel
theorem dX1_obey_116 : decode cX1_obey 116 = .ok (.imul, 1) := by decide +kernel
theorem dX1_obey_117 : decode cX1_obey 117 = .ok (.iload 5, 2) := by decide +kernel
theorem dX1_obey_119 : decode cX1_obey 119 = .ok (.iadd, 1) := by decide +kernel
theorem dX1_obey_120 : decode cX1_obey 120 = .ok (.dup2, 1) := by decide +kernel
theorem dX1_obey_121 : decode cX1_obey 121 = .ok (.iaload, 1) := by decide +kernel
theorem dX1_obey_122 : decode cX1_obey 122 = .ok (.iload 8, 2) := by decide +kernel
theorem dX1_obey_124 : decode cX1_obey 124 = .ok (.ior, 1) := by decide +kernel
theorem dX1_obey_125 : decode cX1_obey 125 = .ok (.iastore, 1) := by decide +kernel
theorem dX1_obey_126 : decode cX1_obey 126 = .ok (.iinc 9 1, 3) := by decide +kernel
theorem dX1_obey_129 : decode cX1_obey 129 = .ok (.goto (-41), 3) := by decide +kernel
theorem dX1_obey_132 : decode cX1_obey 132 = .ok (.iload 7, 2) := by decide +kernel
theorem dX1_obey_134 : decode cX1_obey 134 = .ok (.ifCond .eq 31, 3) := by decide +kernel
theorem dX1_obey_137 : decode cX1_obey 137 = .ok (.aload_n 0, 1) := by decide +kernel
theorem dX1_obey_138 : decode cX1_obey 138 = .ok (.dup, 1) := by decide +kernel
theorem dX1_obey_139 : decode cX1_obey 139 = .ok (.getfield 59, 3) := by decide +kernel
theorem dX1_obey_142 : decode cX1_obey 142 = .ok (.iload 4, 2) := by decide +kernel
theorem dX1_obey_144 : decode cX1_obey 144 = .ok (.iconst 2, 1) := by decide +kernel
theorem dX1_obey_145 : decode cX1_obey 145 = .ok (.aload_n 0, 1) := by decide +kernel
theorem dX1_obey_146 : decode cX1_obey 146 = .ok (.getfield 63, 3) := by decide +kernel
theorem dX1_obey_149 : decode cX1_obey 149 = .ok (.imul, 1) := by decide +kernel
theorem dX1_obey_150 : decode cX1_obey 150 = .ok (.ishl, 1) := by decide +kernel
theorem dX1_obey_151 : decode cX1_obey 151 = .ok (.ior, 1) := by decide +kernel
theorem dX1_obey_152 : decode cX1_obey 152 = .ok (.putfield 59, 3) := by decide +kernel
theorem dX1_obey_155 : decode cX1_obey 155 = .ok (.aload_n 0, 1) := by decide +kernel
theorem dX1_obey_156 : decode cX1_obey 156 = .ok (.dup, 1) := by decide +kernel
theorem dX1_obey_157 : decode cX1_obey 157 = .ok (.getfield 63, 3) := by decide +kernel
theorem dX1_obey_160 : decode cX1_obey 160 = .ok (.iconst 1, 1) := by decide +kernel
theorem dX1_obey_161 : decode cX1_obey 161 = .ok (.iadd, 1) := by decide +kernel
theorem dX1_obey_162 : decode cX1_obey 162 = .ok (.putfield 63, 3) := by decide +kernel
theorem dX1_obey_165 : decode cX1_obey 165 = .ok (.return_, 1) := by decide +kernel
theorem dX1_isAllowed_0 : decode cX1_isAllowed 0 = .ok (.aload_n 0, 1) := by decide +kernel
theorem dX1_isAllowed_1 : decode cX1_isAllowed 1 = .ok (.getfield 9, 3) := by decide +kernel
theorem dX1_isAllowed_4 : decode cX1_isAllowed 4 = .ok (.iload_n 1, 1) := by decide +kernel
theorem dX1_isAllowed_5 : decode cX1_isAllowed 5 = .ok (.iaload, 1) := by decide +kernel
theorem dX1_isAllowed_6 : decode cX1_isAllowed 6 = .ok (.iload_n 2, 1) := by decide +kernel
theorem dX1_isAllowed_7 : decode cX1_isAllowed 7 = .ok (.invokestatic 66, 3) := by decide +kernel
theorem dX1_isAllowed_10 : decode cX1_isAllowed 10 = .ok (.ireturn, 1) := by decide +kernel
theorem dX1_pay_0 : decode cX1_pay 0 = .ok (.iload_n 1, 1) := by decide +kernel
theorem dX1_pay_1 : decode cX1_pay 1 = .ok (.aload_n 0, 1) := by decide +kernel
theorem dX1_pay_2 : decode cX1_pay 2 = .ok (.getfield 18, 3) := by decide +kernel
theorem dX1_pay_5 : decode cX1_pay 5 = .ok (.iload_n 2, 1) := by decide +kernel
theorem dX1_pay_6 : decode cX1_pay 6 = .ok (.bipush 8, 2) := by decide +kernel
theorem dX1_pay_8 : decode cX1_pay 8 = .ok (.imul, 1) := by decide +kernel
theorem dX1_pay_9 : decode cX1_pay 9 = .ok (.iload_n 3, 1) := by decide +kernel
theorem dX1_pay_10 : decode cX1_pay 10 = .ok (.iadd, 1) := by decide +kernel
theorem dX1_pay_11 : decode cX1_pay 11 = .ok (.iaload, 1) := by decide +kernel
theorem dX1_pay_12 : decode cX1_pay 12 = .ok (.iload_n 1, 1) := by decide +kernel
theorem dX1_pay_13 : decode cX1_pay 13 = .ok (.iload_n 1, 1) := by decide +kernel
theorem dX1_pay_14 : decode cX1_pay 14 = .ok (.iconst 1, 1) := by decide +kernel
theorem dX1_pay_15 : decode cX1_pay 15 = .ok (.ishr, 1) := by decide +kernel
theorem dX1_pay_16 : decode cX1_pay 16 = .ok (.ior, 1) := by decide +kernel
theorem dX1_pay_17 : decode cX1_pay 17 = .ok (.iand, 1) := by decide +kernel
theorem dX1_pay_18 : decode cX1_pay 18 = .ok (.isub, 1) := by decide +kernel
theorem dX1_pay_19 : decode cX1_pay 19 = .ok (.ireturn, 1) := by decide +kernel
theorem dX1_row_0 : decode cX1_row 0 = .ok (.iload_n 1, 1) := by decide +kernel
theorem dX1_row_1 : decode cX1_row 1 = .ok (.aload_n 0, 1) := by decide +kernel
theorem dX1_row_2 : decode cX1_row 2 = .ok (.getfield 59, 3) := by decide +kernel
theorem dX1_row_5 : decode cX1_row 5 = .ok (.iconst 1, 1) := by decide +kernel
theorem dX1_row_6 : decode cX1_row 6 = .ok (.iadd, 1) := by decide +kernel
theorem dX1_row_7 : decode cX1_row 7 = .ok (.imul, 1) := by decide +kernel
theorem dX1_row_8 : decode cX1_row 8 = .ok (.iload_n 2, 1) := by decide +kernel
theorem dX1_row_9 : decode cX1_row 9 = .ok (.iadd, 1) := by decide +kernel
theorem dX1_row_10 : decode cX1_row 10 = .ok (.ireturn, 1) := by decide +kernel
theorem dX1_exploreForth_0 : decode cX1_exploreForth 0 = .ok (.aload_n 0, 1) := by decide +kernel
theorem dX1_exploreForth_1 : decode cX1_exploreForth 1 = .ok (.bipush 24, 2) := by decide +kernel
theorem dX1_exploreForth_3 : decode cX1_exploreForth 3 = .ok (.iconst 0, 1) := by decide +kernel
theorem dX1_exploreForth_4 : decode cX1_exploreForth 4 = .ok (.invokevirtual 90, 3) := by decide +kernel
theorem dX1_exploreForth_7 : decode cX1_exploreForth 7 = .ok (.istore_n 1, 1) := by decide +kernel
theorem dX1_exploreForth_8 : decode cX1_exploreForth 8 = .ok (.iconst 0, 1) := by decide +kernel
theorem dX1_exploreForth_9 : decode cX1_exploreForth 9 = .ok (.istore_n 2, 1) := by decide +kernel
theorem dX1_exploreForth_10 : decode cX1_exploreForth 10 = .ok (.iload_n 2, 1) := by decide +kernel
theorem dX1_exploreForth_11 : decode cX1_exploreForth 11 = .ok (.iload_n 1, 1) := by decide +kernel
theorem dX1_exploreForth_12 : decode cX1_exploreForth 12 = .ok (.if_icmp .ge 16, 3) := by decide +kernel
theorem dX1_exploreForth_15 : decode cX1_exploreForth 15 = .ok (.aload_n 0, 1) := by decide +kernel
theorem dX1_exploreForth_16 : decode cX1_exploreForth 16 = .ok (.getfield 21, 3) := by decide +kernel
theorem dX1_exploreForth_19 : decode cX1_exploreForth 19 = .ok (.iload_n 2, 1) := by decide +kernel
theorem dX1_exploreForth_20 : decode cX1_exploreForth 20 = .ok (.iconst 0, 1) := by decide +kernel
theorem dX1_exploreForth_21 : decode cX1_exploreForth 21 = .ok (.iastore, 1) := by decide +kernel
theorem dX1_exploreForth_22 : decode cX1_exploreForth 22 = .ok (.iinc 2 1, 3) := by decide +kernel
theorem dX1_exploreForth_25 : decode cX1_exploreForth 25 = .ok (.goto (-15), 3) := by decide +kernel
theorem dX1_exploreForth_28 : decode cX1_exploreForth 28 = .ok (.aload_n 0, 1) := by decide +kernel
theorem dX1_exploreForth_29 : decode cX1_exploreForth 29 = .ok (.iconst 0, 1) := by decide +kernel
theorem dX1_exploreForth_30 : decode cX1_exploreForth 30 = .ok (.aload_n 0, 1) := by decide +kernel
theorem dX1_exploreForth_31 : decode cX1_exploreForth 31 = .ok (.getfield 59, 3) := by decide +kernel
theorem dX1_exploreForth_34 : decode cX1_exploreForth 34 = .ok (.aload_n 0, 1) := by decide +kernel
theorem dX1_exploreForth_35 : decode cX1_exploreForth 35 = .ok (.getfield 9, 3) := by decide +kernel
theorem dX1_exploreForth_38 : decode cX1_exploreForth 38 = .ok (.iconst 0, 1) := by decide +kernel
theorem dX1_exploreForth_39 : decode cX1_exploreForth 39 = .ok (.iaload, 1) := by decide +kernel
theorem dX1_exploreForth_40 : decode cX1_exploreForth 40 = .ok (.invokevirtual 93, 3) := by decide +kernel
theorem dX1_exploreForth_43 : decode cX1_exploreForth 43 = .ok (.iconst 1, 1) := by decide +kernel
theorem dX1_exploreForth_44 : decode cX1_exploreForth 44 = .ok (.istore_n 2, 1) := by decide +kernel
theorem dX1_exploreForth_45 : decode cX1_exploreForth 45 = .ok (.iload_n 2, 1) := by decide +kernel
theorem dX1_exploreForth_46 : decode cX1_exploreForth 46 = .ok (.bipush 24, 2) := by decide +kernel
theorem dX1_exploreForth_48 : decode cX1_exploreForth 48 = .ok (.if_icmp .ge 64, 3) := by decide +kernel
theorem dX1_exploreForth_51 : decode cX1_exploreForth 51 = .ok (.iconst 0, 1) := by decide +kernel
theorem dX1_exploreForth_52 : decode cX1_exploreForth 52 = .ok (.istore_n 3, 1) := by decide +kernel
theorem dX1_exploreForth_53 : decode cX1_exploreForth 53 = .ok (.iload_n 3, 1) := by decide +kernel
theorem dX1_exploreForth_54 : decode cX1_exploreForth 54 = .ok (.aload_n 0, 1) := by decide +kernel
theorem dX1_exploreForth_55 : decode cX1_exploreForth 55 = .ok (.getfield 59, 3) := by decide +kernel
theorem dX1_exploreForth_58 : decode cX1_exploreForth 58 = .ok (.if_icmp .gt 48, 3) := by decide +kernel
theorem dX1_exploreForth_61 : decode cX1_exploreForth 61 = .ok (.aload_n 0, 1) := by decide +kernel
theorem dX1_exploreForth_62 : decode cX1_exploreForth 62 = .ok (.getfield 21, 3) := by decide +kernel
theorem dX1_exploreForth_65 : decode cX1_exploreForth 65 = .ok (.aload_n 0, 1) := by decide +kernel
theorem dX1_exploreForth_66 : decode cX1_exploreForth 66 = .ok (.iload_n 2, 1) := by decide +kernel
theorem dX1_exploreForth_67 : decode cX1_exploreForth 67 = .ok (.iconst 1, 1) := by decide +kernel
theorem dX1_exploreForth_68 : decode cX1_exploreForth 68 = .ok (.isub, 1) := by decide +kernel
theorem dX1_exploreForth_69 : decode cX1_exploreForth 69 = .ok (.iload_n 3, 1) := by decide +kernel
theorem dX1_exploreForth_70 : decode cX1_exploreForth 70 = .ok (.invokevirtual 90, 3) := by decide +kernel
theorem dX1_exploreForth_73 : decode cX1_exploreForth 73 = .ok (.iaload, 1) := by decide +kernel
theorem dX1_exploreForth_74 : decode cX1_exploreForth 74 = .ok (.istore 4, 2) := by decide +kernel
theorem dX1_exploreForth_76 : decode cX1_exploreForth 76 = .ok (.iload 4, 2) := by decide +kernel
theorem dX1_exploreForth_78 : decode cX1_exploreForth 78 = .ok (.ifCond .eq 22, 3) := by decide +kernel
theorem dX1_exploreForth_81 : decode cX1_exploreForth 81 = .ok (.aload_n 0, 1) := by decide +kernel
theorem dX1_exploreForth_82 : decode cX1_exploreForth 82 = .ok (.iload_n 2, 1) := by decide +kernel
theorem dX1_exploreForth_83 : decode cX1_exploreForth 83 = .ok (.iload_n 3, 1) := by decide +kernel
theorem dX1_exploreForth_84 : decode cX1_exploreForth 84 = .ok (.aload_n 0, 1) := by decide +kernel
theorem dX1_exploreForth_85 : decode cX1_exploreForth 85 = .ok (.iload 4, 2) := by decide +kernel
theorem dX1_exploreForth_87 : decode cX1_exploreForth 87 = .ok (.invokevirtual 97, 3) := by decide +kernel
theorem dX1_exploreForth_90 : decode cX1_exploreForth 90 = .ok (.aload_n 0, 1) := by decide +kernel
theorem dX1_exploreForth_91 : decode cX1_exploreForth 91 = .ok (.getfield 9, 3) := by decide +kernel
theorem dX1_exploreForth_94 : decode cX1_exploreForth 94 = .ok (.iload_n 2, 1) := by decide +kernel
theorem dX1_exploreForth_95 : decode cX1_exploreForth 95 = .ok (.iaload, 1) := by decide +kernel
theorem dX1_exploreForth_96 : decode cX1_exploreForth 96 = .ok (.iand, 1) := by decide +kernel
theorem dX1_exploreForth_97 : decode cX1_exploreForth 97 = .ok (.invokevirtual 93, 3) := by decide +kernel
theorem dX1_exploreForth_100 : decode cX1_exploreForth 100 = .ok (.iinc 3 1, 3) := by decide +kernel
theorem dX1_exploreForth_103 : decode cX1_exploreForth 103 = .ok (.goto (-50), 3) := by decide +kernel
theorem dX1_exploreForth_106 : decode cX1_exploreForth 106 = .ok (.iinc 2 1, 3) := by decide +kernel
theorem dX1_exploreForth_109 : decode cX1_exploreForth 109 = .ok (.goto (-64), 3) := by decide +kernel
theorem dX1_exploreForth_112 : decode cX1_exploreForth 112 = .ok (.return_, 1) := by decide +kernel
theorem dX1_arrive_0 : decode cX1_arrive 0 = .ok (.iconst 0, 1) := by decide +kernel
theorem dX1_arrive_1 : decode cX1_arrive 1 = .ok (.istore 4, 2) := by decide +kernel
theorem dX1_arrive_3 : decode cX1_arrive 3 = .ok (.iload 4, 2) := by decide +kernel
theorem dX1_arrive_5 : decode cX1_arrive 5 = .ok (.bipush 8, 2) := by decide +kernel
theorem dX1_arrive_7 : decode cX1_arrive 7 = .ok (.if_icmp .ge 43, 3) := by decide +kernel
theorem dX1_arrive_10 : decode cX1_arrive 10 = .ok (.iload_n 3, 1) := by decide +kernel
theorem dX1_arrive_11 : decode cX1_arrive 11 = .ok (.iload 4, 2) := by decide +kernel
theorem dX1_arrive_13 : decode cX1_arrive 13 = .ok (.invokestatic 66, 3) := by decide +kernel
theorem dX1_arrive_16 : decode cX1_arrive 16 = .ok (.ifCond .eq 28, 3) := by decide +kernel
theorem dX1_arrive_19 : decode cX1_arrive 19 = .ok (.aload_n 0, 1) := by decide +kernel
theorem dX1_arrive_20 : decode cX1_arrive 20 = .ok (.getfield 21, 3) := by decide +kernel
theorem dX1_arrive_23 : decode cX1_arrive 23 = .ok (.aload_n 0, 1) := by decide +kernel
theorem dX1_arrive_24 : decode cX1_arrive 24 = .ok (.iload_n 1, 1) := by decide +kernel
theorem dX1_arrive_25 : decode cX1_arrive 25 = .ok (.aload_n 0, 1) := by decide +kernel
theorem dX1_arrive_26 : decode cX1_arrive 26 = .ok (.iload_n 2, 1) := by decide +kernel
theorem dX1_arrive_27 : decode cX1_arrive 27 = .ok (.iload_n 1, 1) := by decide +kernel
theorem dX1_arrive_28 : decode cX1_arrive 28 = .ok (.iload 4, 2) := by decide +kernel
theorem dX1_arrive_30 : decode cX1_arrive 30 = .ok (.invokevirtual 98, 3) := by decide +kernel
theorem dX1_arrive_33 : decode cX1_arrive 33 = .ok (.invokevirtual 90, 3) := by decide +kernel
theorem dX1_arrive_36 : decode cX1_arrive 36 = .ok (.dup2, 1) := by decide +kernel
theorem dX1_arrive_37 : decode cX1_arrive 37 = .ok (.iaload, 1) := by decide +kernel
theorem dX1_arrive_38 : decode cX1_arrive 38 = .ok (.iconst 1, 1) := by decide +kernel
theorem dX1_arrive_39 : decode cX1_arrive 39 = .ok (.iload 4, 2) := by decide +kernel
theorem dX1_arrive_41 : decode cX1_arrive 41 = .ok (.ishl, 1) := by decide +kernel
theorem dX1_arrive_42 : decode cX1_arrive 42 = .ok (.ior, 1) := by decide +kernel
theorem dX1_arrive_43 : decode cX1_arrive 43 = .ok (.iastore, 1) := by decide +kernel
theorem dX1_arrive_44 : decode cX1_arrive 44 = .ok (.iinc 4 1, 3) := by decide +kernel
theorem dX1_arrive_47 : decode cX1_arrive 47 = .ok (.goto (-44), 3) := by decide +kernel
theorem dX1_arrive_50 : decode cX1_arrive 50 = .ok (.return_, 1) := by decide +kernel
theorem dX1_stepFrom_0 : decode cX1_stepFrom 0 = .ok (.iconst 0, 1) := by decide +kernel
theorem dX1_stepFrom_1 : decode cX1_stepFrom 1 = .ok (.istore_n 2, 1) := by decide +kernel
theorem dX1_stepFrom_2 : decode cX1_stepFrom 2 = .ok (.iconst 0, 1) := by decide +kernel
theorem dX1_stepFrom_3 : decode cX1_stepFrom 3 = .ok (.istore_n 3, 1) := by decide +kernel
theorem dX1_stepFrom_4 : decode cX1_stepFrom 4 = .ok (.iload_n 3, 1) := by decide +kernel
theorem dX1_stepFrom_5 : decode cX1_stepFrom 5 = .ok (.bipush 8, 2) := by decide +kernel
theorem dX1_stepFrom_7 : decode cX1_stepFrom 7 = .ok (.if_icmp .ge 26, 3) := by decide +kernel
theorem dX1_stepFrom_10 : decode cX1_stepFrom 10 = .ok (.iload_n 1, 1) := by decide +kernel
theorem dX1_stepFrom_11 : decode cX1_stepFrom 11 = .ok (.iload_n 3, 1) := by decide +kernel
theorem dX1_stepFrom_12 : decode cX1_stepFrom 12 = .ok (.invokestatic 66, 3) := by decide +kernel
theorem dX1_stepFrom_15 : decode cX1_stepFrom 15 = .ok (.ifCond .eq 12, 3) := by decide +kernel
theorem dX1_stepFrom_18 : decode cX1_stepFrom 18 = .ok (.iload_n 2, 1) := by decide +kernel
theorem dX1_stepFrom_19 : decode cX1_stepFrom 19 = .ok (.aload_n 0, 1) := by decide +kernel
theorem dX1_stepFrom_20 : decode cX1_stepFrom 20 = .ok (.getfield 15, 3) := by decide +kernel
theorem dX1_stepFrom_23 : decode cX1_stepFrom 23 = .ok (.iload_n 3, 1) := by decide +kernel
theorem dX1_stepFrom_24 : decode cX1_stepFrom 24 = .ok (.iaload, 1) := by decide +kernel
theorem dX1_stepFrom_25 : decode cX1_stepFrom 25 = .ok (.ior, 1) := by decide +kernel
theorem dX1_stepFrom_26 : decode cX1_stepFrom 26 = .ok (.istore_n 2, 1) := by decide +kernel
theorem dX1_stepFrom_27 : decode cX1_stepFrom 27 = .ok (.iinc 3 1, 3) := by decide +kernel
theorem dX1_stepFrom_30 : decode cX1_stepFrom 30 = .ok (.goto (-26), 3) := by decide +kernel
theorem dX1_stepFrom_33 : decode cX1_stepFrom 33 = .ok (.iload_n 2, 1) := by decide +kernel
theorem dX1_stepFrom_34 : decode cX1_stepFrom 34 = .ok (.ireturn, 1) := by decide +kernel
theorem dX1_isThereOne_0 : decode cX1_isThereOne 0 = .ok (.aload_n 0, 1) := by decide +kernel
theorem dX1_isThereOne_1 : decode cX1_isThereOne 1 = .ok (.getfield 21, 3) := by decide +kernel
theorem dX1_isThereOne_4 : decode cX1_isThereOne 4 = .ok (.aload_n 0, 1) := by decide +kernel
theorem dX1_isThereOne_5 : decode cX1_isThereOne 5 = .ok (.bipush 23, 2) := by decide +kernel
theorem dX1_isThereOne_7 : decode cX1_isThereOne 7 = .ok (.iconst 0, 1) := by decide +kernel
theorem dX1_isThereOne_8 : decode cX1_isThereOne 8 = .ok (.invokevirtual 90, 3) := by decide +kernel
theorem dX1_isThereOne_11 : decode cX1_isThereOne 11 = .ok (.iaload, 1) := by decide +kernel
theorem dX1_isThereOne_12 : decode cX1_isThereOne 12 = .ok (.ifCond .eq 7, 3) := by decide +kernel
theorem dX1_isThereOne_15 : decode cX1_isThereOne 15 = .ok (.iconst 1, 1) := by decide +kernel
theorem dX1_isThereOne_16 : decode cX1_isThereOne 16 = .ok (.goto 4, 3) := by decide +kernel
theorem dX1_isThereOne_19 : decode cX1_isThereOne 19 = .ok (.iconst 0, 1) := by decide +kernel
theorem dX1_isThereOne_20 : decode cX1_isThereOne 20 = .ok (.ireturn, 1) := by decide +kernel
theorem dX1_exploreBack_0 : decode cX1_exploreBack 0 = .ok (.iconst 0, 1) := by decide +kernel
theorem dX1_exploreBack_1 : decode cX1_exploreBack 1 = .ok (.istore_n 1, 1) := by decide +kernel
theorem dX1_exploreBack_2 : decode cX1_exploreBack 2 = .ok (.iload_n 1, 1) := by decide +kernel
theorem dX1_exploreBack_3 : decode cX1_exploreBack 3 = .ok (.aload_n 0, 1) := by decide +kernel
theorem dX1_exploreBack_4 : decode cX1_exploreBack 4 = .ok (.getfield 59, 3) := by decide +kernel
theorem dX1_exploreBack_7 : decode cX1_exploreBack 7 = .ok (.if_icmp .gt 24, 3) := by decide +kernel
theorem dX1_exploreBack_10 : decode cX1_exploreBack 10 = .ok (.aload_n 0, 1) := by decide +kernel
theorem dX1_exploreBack_11 : decode cX1_exploreBack 11 = .ok (.getfield 24, 3) := by decide +kernel
theorem dX1_exploreBack_14 : decode cX1_exploreBack 14 = .ok (.aload_n 0, 1) := by decide +kernel
theorem dX1_exploreBack_15 : decode cX1_exploreBack 15 = .ok (.bipush 23, 2) := by decide +kernel
theorem dX1_exploreBack_17 : decode cX1_exploreBack 17 = .ok (.iload_n 1, 1) := by decide +kernel
theorem dX1_exploreBack_18 : decode cX1_exploreBack 18 = .ok (.invokevirtual 90, 3) := by decide +kernel
theorem dX1_exploreBack_21 : decode cX1_exploreBack 21 = .ok (.ldc2_w 102, 3) := by decide +kernel
theorem dX1_exploreBack_24 : decode cX1_exploreBack 24 = .ok (.lastore, 1) := by decide +kernel
theorem dX1_exploreBack_25 : decode cX1_exploreBack 25 = .ok (.iinc 1 1, 3) := by decide +kernel
theorem dX1_exploreBack_28 : decode cX1_exploreBack 28 = .ok (.goto (-26), 3) := by decide +kernel
theorem dX1_exploreBack_31 : decode cX1_exploreBack 31 = .ok (.aload_n 0, 1) := by decide +kernel
theorem dX1_exploreBack_32 : decode cX1_exploreBack 32 = .ok (.getfield 21, 3) := by decide +kernel
theorem dX1_exploreBack_35 : decode cX1_exploreBack 35 = .ok (.aload_n 0, 1) := by decide +kernel
theorem dX1_exploreBack_36 : decode cX1_exploreBack 36 = .ok (.bipush 23, 2) := by decide +kernel
theorem dX1_exploreBack_38 : decode cX1_exploreBack 38 = .ok (.iconst 0, 1) := by decide +kernel
theorem dX1_exploreBack_39 : decode cX1_exploreBack 39 = .ok (.invokevirtual 90, 3) := by decide +kernel
theorem dX1_exploreBack_42 : decode cX1_exploreBack 42 = .ok (.iaload, 1) := by decide +kernel
theorem dX1_exploreBack_43 : decode cX1_exploreBack 43 = .ok (.istore_n 1, 1) := by decide +kernel
theorem dX1_exploreBack_44 : decode cX1_exploreBack 44 = .ok (.iconst 0, 1) := by decide +kernel
theorem dX1_exploreBack_45 : decode cX1_exploreBack 45 = .ok (.istore_n 2, 1) := by decide +kernel
theorem dX1_exploreBack_46 : decode cX1_exploreBack 46 = .ok (.iload_n 2, 1) := by decide +kernel
theorem dX1_exploreBack_47 : decode cX1_exploreBack 47 = .ok (.bipush 8, 2) := by decide +kernel
theorem dX1_exploreBack_49 : decode cX1_exploreBack 49 = .ok (.if_icmp .ge 30, 3) := by decide +kernel
theorem dX1_exploreBack_52 : decode cX1_exploreBack 52 = .ok (.iload_n 1, 1) := by decide +kernel
theorem dX1_exploreBack_53 : decode cX1_exploreBack 53 = .ok (.iload_n 2, 1) := by decide +kernel
theorem dX1_exploreBack_54 : decode cX1_exploreBack 54 = .ok (.invokestatic 66, 3) := by decide +kernel
theorem dX1_exploreBack_57 : decode cX1_exploreBack 57 = .ok (.ifCond .eq 16, 3) := by decide +kernel
theorem dX1_exploreBack_60 : decode cX1_exploreBack 60 = .ok (.aload_n 0, 1) := by decide +kernel
theorem dX1_exploreBack_61 : decode cX1_exploreBack 61 = .ok (.aload_n 0, 1) := by decide +kernel
theorem dX1_exploreBack_62 : decode cX1_exploreBack 62 = .ok (.bipush 23, 2) := by decide +kernel
theorem dX1_exploreBack_64 : decode cX1_exploreBack 64 = .ok (.iconst 0, 1) := by decide +kernel
theorem dX1_exploreBack_65 : decode cX1_exploreBack 65 = .ok (.invokevirtual 90, 3) := by decide +kernel
theorem dX1_exploreBack_68 : decode cX1_exploreBack 68 = .ok (.iload_n 2, 1) := by decide +kernel
theorem dX1_exploreBack_69 : decode cX1_exploreBack 69 = .ok (.iconst 0, 1) := by decide +kernel
theorem dX1_exploreBack_70 : decode cX1_exploreBack 70 = .ok (.invokevirtual 104, 3) := by decide +kernel
theorem dX1_exploreBack_73 : decode cX1_exploreBack 73 = .ok (.iinc 2 1, 3) := by decide +kernel
theorem dX1_exploreBack_76 : decode cX1_exploreBack 76 = .ok (.goto (-30), 3) := by decide +kernel
theorem dX1_exploreBack_79 : decode cX1_exploreBack 79 = .ok (.bipush 22, 2) := by decide +kernel
theorem dX1_exploreBack_81 : decode cX1_exploreBack 81 = .ok (.istore_n 2, 1) := by decide +kernel
theorem dX1_exploreBack_82 : decode cX1_exploreBack 82 = .ok (.iload_n 2, 1) := by decide +kernel
theorem dX1_exploreBack_83 : decode cX1_exploreBack 83 = .ok (.ifCond .lt 31, 3) := by decide +kernel
theorem dX1_exploreBack_86 : decode cX1_exploreBack 86 = .ok (.iconst 0, 1) := by decide +kernel
theorem dX1_exploreBack_87 : decode cX1_exploreBack 87 = .ok (.istore_n 3, 1) := by decide +kernel
theorem dX1_exploreBack_88 : decode cX1_exploreBack 88 = .ok (.iload_n 3, 1) := by decide +kernel
theorem dX1_exploreBack_89 : decode cX1_exploreBack 89 = .ok (.aload_n 0, 1) := by decide +kernel
theorem dX1_exploreBack_90 : decode cX1_exploreBack 90 = .ok (.getfield 59, 3) := by decide +kernel
theorem dX1_exploreBack_93 : decode cX1_exploreBack 93 = .ok (.if_icmp .gt 15, 3) := by decide +kernel
theorem dX1_exploreBack_96 : decode cX1_exploreBack 96 = .ok (.aload_n 0, 1) := by decide +kernel
theorem dX1_exploreBack_97 : decode cX1_exploreBack 97 = .ok (.iload_n 2, 1) := by decide +kernel
theorem dX1_exploreBack_98 : decode cX1_exploreBack 98 = .ok (.iload_n 3, 1) := by decide +kernel
theorem dX1_exploreBack_99 : decode cX1_exploreBack 99 = .ok (.invokevirtual 107, 3) := by decide +kernel
theorem dX1_exploreBack_102 : decode cX1_exploreBack 102 = .ok (.iinc 3 1, 3) := by decide +kernel
theorem dX1_exploreBack_105 : decode cX1_exploreBack 105 = .ok (.goto (-17), 3) := by decide +kernel
theorem dX1_exploreBack_108 : decode cX1_exploreBack 108 = .ok (.iinc 2 (-1), 3) := by decide +kernel
theorem dX1_exploreBack_111 : decode cX1_exploreBack 111 = .ok (.goto (-29), 3) := by decide +kernel
theorem dX1_exploreBack_114 : decode cX1_exploreBack 114 = .ok (.return_, 1) := by decide +kernel
theorem dX1_weigh_0 : decode cX1_weigh 0 = .ok (.aload_n 0, 1) := by decide +kernel
theorem dX1_weigh_1 : decode cX1_weigh 1 = .ok (.iload_n 1, 1) := by decide +kernel
theorem dX1_weigh_2 : decode cX1_weigh 2 = .ok (.iload_n 2, 1) := by decide +kernel
theorem dX1_weigh_3 : decode cX1_weigh 3 = .ok (.invokevirtual 90, 3) := by decide +kernel
theorem dX1_weigh_6 : decode cX1_weigh 6 = .ok (.istore_n 3, 1) := by decide +kernel
theorem dX1_weigh_7 : decode cX1_weigh 7 = .ok (.aload_n 0, 1) := by decide +kernel
theorem dX1_weigh_8 : decode cX1_weigh 8 = .ok (.getfield 21, 3) := by decide +kernel
theorem dX1_weigh_11 : decode cX1_weigh 11 = .ok (.iload_n 3, 1) := by decide +kernel
theorem dX1_weigh_12 : decode cX1_weigh 12 = .ok (.iaload, 1) := by decide +kernel
theorem dX1_weigh_13 : decode cX1_weigh 13 = .ok (.istore 4, 2) := by decide +kernel
theorem dX1_weigh_15 : decode cX1_weigh 15 = .ok (.aload_n 0, 1) := by decide +kernel
theorem dX1_weigh_16 : decode cX1_weigh 16 = .ok (.getfield 24, 3) := by decide +kernel
theorem dX1_weigh_19 : decode cX1_weigh 19 = .ok (.iload_n 3, 1) := by decide +kernel
theorem dX1_weigh_20 : decode cX1_weigh 20 = .ok (.ldc2_w 102, 3) := by decide +kernel
theorem dX1_weigh_23 : decode cX1_weigh 23 = .ok (.lastore, 1) := by decide +kernel
theorem dX1_weigh_24 : decode cX1_weigh 24 = .ok (.iload 4, 2) := by decide +kernel
theorem dX1_weigh_26 : decode cX1_weigh 26 = .ok (.ifCond .ne 4, 3) := by decide +kernel
theorem dX1_weigh_29 : decode cX1_weigh 29 = .ok (.return_, 1) := by decide +kernel
theorem dX1_weigh_30 : decode cX1_weigh 30 = .ok (.aload_n 0, 1) := by decide +kernel
theorem dX1_weigh_31 : decode cX1_weigh 31 = .ok (.iload_n 1, 1) := by decide +kernel
theorem dX1_weigh_32 : decode cX1_weigh 32 = .ok (.iload_n 2, 1) := by decide +kernel
theorem dX1_weigh_33 : decode cX1_weigh 33 = .ok (.invokevirtual 111, 3) := by decide +kernel
theorem dX1_weigh_36 : decode cX1_weigh 36 = .ok (.iconst 0, 1) := by decide +kernel
theorem dX1_weigh_37 : decode cX1_weigh 37 = .ok (.istore 5, 2) := by decide +kernel
theorem dX1_weigh_39 : decode cX1_weigh 39 = .ok (.iload 5, 2) := by decide +kernel
theorem dX1_weigh_41 : decode cX1_weigh 41 = .ok (.bipush 8, 2) := by decide +kernel
theorem dX1_weigh_43 : decode cX1_weigh 43 = .ok (.if_icmp .ge 32, 3) := by decide +kernel
theorem dX1_weigh_46 : decode cX1_weigh 46 = .ok (.iload 4, 2) := by decide +kernel
theorem dX1_weigh_48 : decode cX1_weigh 48 = .ok (.iload 5, 2) := by decide +kernel
theorem dX1_weigh_50 : decode cX1_weigh 50 = .ok (.invokestatic 66, 3) := by decide +kernel
theorem dX1_weigh_53 : decode cX1_weigh 53 = .ok (.ifCond .eq 16, 3) := by decide +kernel
theorem dX1_weigh_56 : decode cX1_weigh 56 = .ok (.aload_n 0, 1) := by decide +kernel
theorem dX1_weigh_57 : decode cX1_weigh 57 = .ok (.iload_n 3, 1) := by decide +kernel
theorem dX1_weigh_58 : decode cX1_weigh 58 = .ok (.iload 5, 2) := by decide +kernel
theorem dX1_weigh_60 : decode cX1_weigh 60 = .ok (.aload_n 0, 1) := by decide +kernel
theorem dX1_weigh_61 : decode cX1_weigh 61 = .ok (.iload 5, 2) := by decide +kernel
theorem dX1_weigh_63 : decode cX1_weigh 63 = .ok (.invokevirtual 114, 3) := by decide +kernel
theorem dX1_weigh_66 : decode cX1_weigh 66 = .ok (.invokevirtual 104, 3) := by decide +kernel
theorem dX1_weigh_69 : decode cX1_weigh 69 = .ok (.iinc 5 1, 3) := by decide +kernel
theorem dX1_weigh_72 : decode cX1_weigh 72 = .ok (.goto (-33), 3) := by decide +kernel
theorem dX1_weigh_75 : decode cX1_weigh 75 = .ok (.return_, 1) := by decide +kernel
theorem dX1_lookAhead_0 : decode cX1_lookAhead 0 = .ok (.iconst 0, 1) := by decide +kernel
theorem dX1_lookAhead_1 : decode cX1_lookAhead 1 = .ok (.istore_n 3, 1) := by decide +kernel
theorem dX1_lookAhead_2 : decode cX1_lookAhead 2 = .ok (.iload_n 3, 1) := by decide +kernel
theorem dX1_lookAhead_3 : decode cX1_lookAhead 3 = .ok (.bipush 8, 2) := by decide +kernel
theorem dX1_lookAhead_5 : decode cX1_lookAhead 5 = .ok (.if_icmp .ge 36, 3) := by decide +kernel
theorem dX1_lookAhead_8 : decode cX1_lookAhead 8 = .ok (.aload_n 0, 1) := by decide +kernel
theorem dX1_lookAhead_9 : decode cX1_lookAhead 9 = .ok (.getfield 34, 3) := by decide +kernel
theorem dX1_lookAhead_12 : decode cX1_lookAhead 12 = .ok (.iload_n 3, 1) := by decide +kernel
theorem dX1_lookAhead_13 : decode cX1_lookAhead 13 = .ok (.aload_n 0, 1) := by decide +kernel
theorem dX1_lookAhead_14 : decode cX1_lookAhead 14 = .ok (.aload_n 0, 1) := by decide +kernel
theorem dX1_lookAhead_15 : decode cX1_lookAhead 15 = .ok (.iload_n 1, 1) := by decide +kernel
theorem dX1_lookAhead_16 : decode cX1_lookAhead 16 = .ok (.iconst 1, 1) := by decide +kernel
theorem dX1_lookAhead_17 : decode cX1_lookAhead 17 = .ok (.iadd, 1) := by decide +kernel
theorem dX1_lookAhead_18 : decode cX1_lookAhead 18 = .ok (.aload_n 0, 1) := by decide +kernel
theorem dX1_lookAhead_19 : decode cX1_lookAhead 19 = .ok (.iload_n 2, 1) := by decide +kernel
theorem dX1_lookAhead_20 : decode cX1_lookAhead 20 = .ok (.iload_n 1, 1) := by decide +kernel
theorem dX1_lookAhead_21 : decode cX1_lookAhead 21 = .ok (.iconst 1, 1) := by decide +kernel
theorem dX1_lookAhead_22 : decode cX1_lookAhead 22 = .ok (.iadd, 1) := by decide +kernel
theorem dX1_lookAhead_23 : decode cX1_lookAhead 23 = .ok (.iload_n 3, 1) := by decide +kernel
theorem dX1_lookAhead_24 : decode cX1_lookAhead 24 = .ok (.invokevirtual 98, 3) := by decide +kernel
theorem dX1_lookAhead_27 : decode cX1_lookAhead 27 = .ok (.invokevirtual 90, 3) := by decide +kernel
theorem dX1_lookAhead_30 : decode cX1_lookAhead 30 = .ok (.iload_n 3, 1) := by decide +kernel
theorem dX1_lookAhead_31 : decode cX1_lookAhead 31 = .ok (.invokevirtual 117, 3) := by decide +kernel
theorem dX1_lookAhead_34 : decode cX1_lookAhead 34 = .ok (.iastore, 1) := by decide +kernel
theorem dX1_lookAhead_35 : decode cX1_lookAhead 35 = .ok (.iinc 3 1, 3) := by decide +kernel
theorem dX1_lookAhead_38 : decode cX1_lookAhead 38 = .ok (.goto (-36), 3) := by decide +kernel
theorem dX1_lookAhead_41 : decode cX1_lookAhead 41 = .ok (.return_, 1) := by decide +kernel
theorem dX1_leastCost_0 : decode cX1_leastCost 0 = .ok (.aload_n 0, 1) := by decide +kernel
theorem dX1_leastCost_1 : decode cX1_leastCost 1 = .ok (.getfield 34, 3) := by decide +kernel
theorem dX1_leastCost_4 : decode cX1_leastCost 4 = .ok (.iload_n 1, 1) := by decide +kernel
theorem dX1_leastCost_5 : decode cX1_leastCost 5 = .ok (.iaload, 1) := by decide +kernel
theorem dX1_leastCost_6 : decode cX1_leastCost 6 = .ok (.istore_n 2, 1) := by decide +kernel
theorem dX1_leastCost_7 : decode cX1_leastCost 7 = .ok (.iconst 0, 1) := by decide +kernel
theorem dX1_leastCost_8 : decode cX1_leastCost 8 = .ok (.istore_n 3, 1) := by decide +kernel
theorem dX1_leastCost_9 : decode cX1_leastCost 9 = .ok (.iload_n 3, 1) := by decide +kernel
theorem dX1_leastCost_10 : decode cX1_leastCost 10 = .ok (.bipush 8, 2) := by decide +kernel
theorem dX1_leastCost_12 : decode cX1_leastCost 12 = .ok (.if_icmp .ge 43, 3) := by decide +kernel
theorem dX1_leastCost_15 : decode cX1_leastCost 15 = .ok (.aload_n 0, 1) := by decide +kernel
theorem dX1_leastCost_16 : decode cX1_leastCost 16 = .ok (.getfield 34, 3) := by decide +kernel
theorem dX1_leastCost_19 : decode cX1_leastCost 19 = .ok (.iload_n 3, 1) := by decide +kernel
theorem dX1_leastCost_20 : decode cX1_leastCost 20 = .ok (.iaload, 1) := by decide +kernel
theorem dX1_leastCost_21 : decode cX1_leastCost 21 = .ok (.iconst 1, 1) := by decide +kernel
theorem dX1_leastCost_22 : decode cX1_leastCost 22 = .ok (.iadd, 1) := by decide +kernel
theorem dX1_leastCost_23 : decode cX1_leastCost 23 = .ok (.iload_n 2, 1) := by decide +kernel
theorem dX1_leastCost_24 : decode cX1_leastCost 24 = .ok (.if_icmp .ge 25, 3) := by decide +kernel
theorem dX1_leastCost_27 : decode cX1_leastCost 27 = .ok (.aload_n 0, 1) := by decide +kernel
theorem dX1_leastCost_28 : decode cX1_leastCost 28 = .ok (.getfield 15, 3) := by decide +kernel
theorem dX1_leastCost_31 : decode cX1_leastCost 31 = .ok (.iload_n 1, 1) := by decide +kernel
theorem dX1_leastCost_32 : decode cX1_leastCost 32 = .ok (.iaload, 1) := by decide +kernel
theorem dX1_leastCost_33 : decode cX1_leastCost 33 = .ok (.iload_n 3, 1) := by decide +kernel
theorem dX1_leastCost_34 : decode cX1_leastCost 34 = .ok (.invokestatic 66, 3) := by decide +kernel
theorem dX1_leastCost_37 : decode cX1_leastCost 37 = .ok (.ifCond .eq 12, 3) := by decide +kernel
theorem dX1_leastCost_40 : decode cX1_leastCost 40 = .ok (.aload_n 0, 1) := by decide +kernel
theorem dX1_leastCost_41 : decode cX1_leastCost 41 = .ok (.getfield 34, 3) := by decide +kernel
theorem dX1_leastCost_44 : decode cX1_leastCost 44 = .ok (.iload_n 3, 1) := by decide +kernel
theorem dX1_leastCost_45 : decode cX1_leastCost 45 = .ok (.iaload, 1) := by decide +kernel
theorem dX1_leastCost_46 : decode cX1_leastCost 46 = .ok (.iconst 1, 1) := by decide +kernel
theorem dX1_leastCost_47 : decode cX1_leastCost 47 = .ok (.iadd, 1) := by decide +kernel
theorem dX1_leastCost_48 : decode cX1_leastCost 48 = .ok (.istore_n 2, 1) := by decide +kernel
theorem dX1_leastCost_49 : decode cX1_leastCost 49 = .ok (.iinc 3 1, 3) := by decide +kernel
theorem dX1_leastCost_52 : decode cX1_leastCost 52 = .ok (.goto (-43), 3) := by decide +kernel
theorem dX1_leastCost_55 : decode cX1_leastCost 55 = .ok (.iload_n 2, 1) := by decide +kernel
theorem dX1_leastCost_56 : decode cX1_leastCost 56 = .ok (.ireturn, 1) := by decide +kernel
theorem dX1_cost_0 : decode cX1_cost 0 = .ok (.aload_n 0, 1) := by decide +kernel
theorem dX1_cost_1 : decode cX1_cost 1 = .ok (.getfield 24, 3) := by decide +kernel
theorem dX1_cost_4 : decode cX1_cost 4 = .ok (.iload_n 1, 1) := by decide +kernel
theorem dX1_cost_5 : decode cX1_cost 5 = .ok (.laload, 1) := by decide +kernel
theorem dX1_cost_6 : decode cX1_cost 6 = .ok (.bipush 8, 2) := by decide +kernel
theorem dX1_cost_8 : decode cX1_cost 8 = .ok (.iload_n 2, 1) := by decide +kernel
theorem dX1_cost_9 : decode cX1_cost 9 = .ok (.imul, 1) := by decide +kernel
theorem dX1_cost_10 : decode cX1_cost 10 = .ok (.lushr, 1) := by decide +kernel
theorem dX1_cost_11 : decode cX1_cost 11 = .ok (.l2i, 1) := by decide +kernel
theorem dX1_cost_12 : decode cX1_cost 12 = .ok (.sipush 255, 3) := by decide +kernel
theorem dX1_cost_15 : decode cX1_cost 15 = .ok (.iand, 1) := by decide +kernel
theorem dX1_cost_16 : decode cX1_cost 16 = .ok (.ireturn, 1) := by decide +kernel
theorem dX1_setCost_0 : decode cX1_setCost 0 = .ok (.bipush 8, 2) := by decide +kernel
theorem dX1_setCost_2 : decode cX1_setCost 2 = .ok (.iload_n 2, 1) := by decide +kernel
theorem dX1_setCost_3 : decode cX1_setCost 3 = .ok (.imul, 1) := by decide +kernel
theorem dX1_setCost_4 : decode cX1_setCost 4 = .ok (.istore 4, 2) := by decide +kernel
theorem dX1_setCost_6 : decode cX1_setCost 6 = .ok (.aload_n 0, 1) := by decide +kernel
theorem dX1_setCost_7 : decode cX1_setCost 7 = .ok (.getfield 24, 3) := by decide +kernel
theorem dX1_setCost_10 : decode cX1_setCost 10 = .ok (.iload_n 1, 1) := by decide +kernel
theorem dX1_setCost_11 : decode cX1_setCost 11 = .ok (.aload_n 0, 1) := by decide +kernel
theorem dX1_setCost_12 : decode cX1_setCost 12 = .ok (.getfield 24, 3) := by decide +kernel
theorem dX1_setCost_15 : decode cX1_setCost 15 = .ok (.iload_n 1, 1) := by decide +kernel
theorem dX1_setCost_16 : decode cX1_setCost 16 = .ok (.laload, 1) := by decide +kernel
theorem dX1_setCost_17 : decode cX1_setCost 17 = .ok (.ldc2_w 120, 3) := by decide +kernel
theorem dX1_setCost_20 : decode cX1_setCost 20 = .ok (.iload 4, 2) := by decide +kernel
theorem dX1_setCost_22 : decode cX1_setCost 22 = .ok (.lshl, 1) := by decide +kernel
theorem dX1_setCost_23 : decode cX1_setCost 23 = .ok (.ldc2_w 102, 3) := by decide +kernel
theorem dX1_setCost_26 : decode cX1_setCost 26 = .ok (.lxor, 1) := by decide +kernel
theorem dX1_setCost_27 : decode cX1_setCost 27 = .ok (.land, 1) := by decide +kernel
theorem dX1_setCost_28 : decode cX1_setCost 28 = .ok (.iload_n 3, 1) := by decide +kernel
theorem dX1_setCost_29 : decode cX1_setCost 29 = .ok (.i2l, 1) := by decide +kernel
theorem dX1_setCost_30 : decode cX1_setCost 30 = .ok (.iload 4, 2) := by decide +kernel
theorem dX1_setCost_32 : decode cX1_setCost 32 = .ok (.lshl, 1) := by decide +kernel
theorem dX1_setCost_33 : decode cX1_setCost 33 = .ok (.lor, 1) := by decide +kernel
theorem dX1_setCost_34 : decode cX1_setCost 34 = .ok (.lastore, 1) := by decide +kernel
theorem dX1_setCost_35 : decode cX1_setCost 35 = .ok (.return_, 1) := by decide +kernel
theorem dX1_placesIn_0 : decode cX1_placesIn 0 = .ok (.iconst 0, 1) := by decide +kernel
theorem dX1_placesIn_1 : decode cX1_placesIn 1 = .ok (.istore_n 2, 1) := by decide +kernel
theorem dX1_placesIn_2 : decode cX1_placesIn 2 = .ok (.iconst 0, 1) := by decide +kernel
theorem dX1_placesIn_3 : decode cX1_placesIn 3 = .ok (.istore_n 3, 1) := by decide +kernel
theorem dX1_placesIn_4 : decode cX1_placesIn 4 = .ok (.iload_n 3, 1) := by decide +kernel
theorem dX1_placesIn_5 : decode cX1_placesIn 5 = .ok (.aload_n 0, 1) := by decide +kernel
theorem dX1_placesIn_6 : decode cX1_placesIn 6 = .ok (.getfield 59, 3) := by decide +kernel
theorem dX1_placesIn_9 : decode cX1_placesIn 9 = .ok (.if_icmp .gt 68, 3) := by decide +kernel
theorem dX1_placesIn_12 : decode cX1_placesIn 12 = .ok (.aload_n 0, 1) := by decide +kernel
theorem dX1_placesIn_13 : decode cX1_placesIn 13 = .ok (.iload_n 1, 1) := by decide +kernel
theorem dX1_placesIn_14 : decode cX1_placesIn 14 = .ok (.iload_n 3, 1) := by decide +kernel
theorem dX1_placesIn_15 : decode cX1_placesIn 15 = .ok (.invokevirtual 90, 3) := by decide +kernel
theorem dX1_placesIn_18 : decode cX1_placesIn 18 = .ok (.istore 4, 2) := by decide +kernel
theorem dX1_placesIn_20 : decode cX1_placesIn 20 = .ok (.iconst 0, 1) := by decide +kernel
theorem dX1_placesIn_21 : decode cX1_placesIn 21 = .ok (.istore 5, 2) := by decide +kernel
theorem dX1_placesIn_23 : decode cX1_placesIn 23 = .ok (.aload_n 0, 1) := by decide +kernel
theorem dX1_placesIn_24 : decode cX1_placesIn 24 = .ok (.getfield 24, 3) := by decide +kernel
theorem dX1_placesIn_27 : decode cX1_placesIn 27 = .ok (.iload 4, 2) := by decide +kernel
theorem dX1_placesIn_29 : decode cX1_placesIn 29 = .ok (.laload, 1) := by decide +kernel
theorem dX1_placesIn_30 : decode cX1_placesIn 30 = .ok (.ldc2_w 102, 3) := by decide +kernel
theorem dX1_placesIn_33 : decode cX1_placesIn 33 = .ok (.lcmp, 1) := by decide +kernel
theorem dX1_placesIn_34 : decode cX1_placesIn 34 = .ok (.ifCond .eq 37, 3) := by decide +kernel
theorem dX1_placesIn_37 : decode cX1_placesIn 37 = .ok (.iload 5, 2) := by decide +kernel
theorem dX1_placesIn_39 : decode cX1_placesIn 39 = .ok (.bipush 8, 2) := by decide +kernel
theorem dX1_placesIn_41 : decode cX1_placesIn 41 = .ok (.if_icmp .ge 30, 3) := by decide +kernel
theorem dX1_placesIn_44 : decode cX1_placesIn 44 = .ok (.aload_n 0, 1) := by decide +kernel
theorem dX1_placesIn_45 : decode cX1_placesIn 45 = .ok (.iload 4, 2) := by decide +kernel
theorem dX1_placesIn_47 : decode cX1_placesIn 47 = .ok (.iload 5, 2) := by decide +kernel
theorem dX1_placesIn_49 : decode cX1_placesIn 49 = .ok (.invokevirtual 117, 3) := by decide +kernel
theorem dX1_placesIn_52 : decode cX1_placesIn 52 = .ok (.sipush 255, 3) := by decide +kernel
theorem dX1_placesIn_55 : decode cX1_placesIn 55 = .ok (.if_icmp .eq 10, 3) := by decide +kernel
theorem dX1_placesIn_58 : decode cX1_placesIn 58 = .ok (.iload_n 2, 1) := by decide +kernel
theorem dX1_placesIn_59 : decode cX1_placesIn 59 = .ok (.iconst 1, 1) := by decide +kernel
theorem dX1_placesIn_60 : decode cX1_placesIn 60 = .ok (.iload 5, 2) := by decide +kernel
theorem dX1_placesIn_62 : decode cX1_placesIn 62 = .ok (.ishl, 1) := by decide +kernel
theorem dX1_placesIn_63 : decode cX1_placesIn 63 = .ok (.ior, 1) := by decide +kernel
theorem dX1_placesIn_64 : decode cX1_placesIn 64 = .ok (.istore_n 2, 1) := by decide +kernel
theorem dX1_placesIn_65 : decode cX1_placesIn 65 = .ok (.iinc 5 1, 3) := by decide +kernel
theorem dX1_placesIn_68 : decode cX1_placesIn 68 = .ok (.goto (-45), 3) := by decide +kernel
theorem dX1_placesIn_71 : decode cX1_placesIn 71 = .ok (.iinc 3 1, 3) := by decide +kernel
theorem dX1_placesIn_74 : decode cX1_placesIn 74 = .ok (.goto (-70), 3) := by decide +kernel
theorem dX1_placesIn_77 : decode cX1_placesIn 77 = .ok (.iload_n 2, 1) := by decide +kernel
theorem dX1_placesIn_78 : decode cX1_placesIn 78 = .ok (.ireturn, 1) := by decide +kernel
theorem dX1_tellBest_0 : decode cX1_tellBest 0 = .ok (.iconst 0, 1) := by decide +kernel
theorem dX1_tellBest_1 : decode cX1_tellBest 1 = .ok (.istore_n 2, 1) := by decide +kernel
theorem dX1_tellBest_2 : decode cX1_tellBest 2 = .ok (.sipush 255, 3) := by decide +kernel
theorem dX1_tellBest_5 : decode cX1_tellBest 5 = .ok (.istore_n 3, 1) := by decide +kernel
theorem dX1_tellBest_6 : decode cX1_tellBest 6 = .ok (.iconst 0, 1) := by decide +kernel
theorem dX1_tellBest_7 : decode cX1_tellBest 7 = .ok (.istore 4, 2) := by decide +kernel
theorem dX1_tellBest_9 : decode cX1_tellBest 9 = .ok (.iload 4, 2) := by decide +kernel
theorem dX1_tellBest_11 : decode cX1_tellBest 11 = .ok (.bipush 8, 2) := by decide +kernel
theorem dX1_tellBest_13 : decode cX1_tellBest 13 = .ok (.if_icmp .ge 45, 3) := by decide +kernel
theorem dX1_tellBest_16 : decode cX1_tellBest 16 = .ok (.aload_n 0, 1) := by decide +kernel
theorem dX1_tellBest_17 : decode cX1_tellBest 17 = .ok (.aload_n 0, 1) := by decide +kernel
theorem dX1_tellBest_18 : decode cX1_tellBest 18 = .ok (.iconst 0, 1) := by decide +kernel
theorem dX1_tellBest_19 : decode cX1_tellBest 19 = .ok (.aload_n 0, 1) := by decide +kernel
theorem dX1_tellBest_20 : decode cX1_tellBest 20 = .ok (.aload_n 0, 1) := by decide +kernel
theorem dX1_tellBest_21 : decode cX1_tellBest 21 = .ok (.getfield 59, 3) := by decide +kernel
theorem dX1_tellBest_24 : decode cX1_tellBest 24 = .ok (.iconst 0, 1) := by decide +kernel
theorem dX1_tellBest_25 : decode cX1_tellBest 25 = .ok (.iload 4, 2) := by decide +kernel
theorem dX1_tellBest_27 : decode cX1_tellBest 27 = .ok (.invokevirtual 98, 3) := by decide +kernel
theorem dX1_tellBest_30 : decode cX1_tellBest 30 = .ok (.invokevirtual 90, 3) := by decide +kernel
theorem dX1_tellBest_33 : decode cX1_tellBest 33 = .ok (.iload 4, 2) := by decide +kernel
theorem dX1_tellBest_35 : decode cX1_tellBest 35 = .ok (.invokevirtual 117, 3) := by decide +kernel
theorem dX1_tellBest_38 : decode cX1_tellBest 38 = .ok (.istore 5, 2) := by decide +kernel
theorem dX1_tellBest_40 : decode cX1_tellBest 40 = .ok (.iload 5, 2) := by decide +kernel
theorem dX1_tellBest_42 : decode cX1_tellBest 42 = .ok (.iload_n 3, 1) := by decide +kernel
theorem dX1_tellBest_43 : decode cX1_tellBest 43 = .ok (.if_icmp .ge 9, 3) := by decide +kernel
theorem dX1_tellBest_46 : decode cX1_tellBest 46 = .ok (.iload 5, 2) := by decide +kernel
theorem dX1_tellBest_48 : decode cX1_tellBest 48 = .ok (.istore_n 3, 1) := by decide +kernel
theorem dX1_tellBest_49 : decode cX1_tellBest 49 = .ok (.iload 4, 2) := by decide +kernel
theorem dX1_tellBest_51 : decode cX1_tellBest 51 = .ok (.istore_n 2, 1) := by decide +kernel
theorem dX1_tellBest_52 : decode cX1_tellBest 52 = .ok (.iinc 4 1, 3) := by decide +kernel
theorem dX1_tellBest_55 : decode cX1_tellBest 55 = .ok (.goto (-46), 3) := by decide +kernel
theorem dX1_tellBest_58 : decode cX1_tellBest 58 = .ok (.aload_n 0, 1) := by decide +kernel
theorem dX1_tellBest_59 : decode cX1_tellBest 59 = .ok (.aload_n 0, 1) := by decide +kernel
theorem dX1_tellBest_60 : decode cX1_tellBest 60 = .ok (.getfield 59, 3) := by decide +kernel
theorem dX1_tellBest_63 : decode cX1_tellBest 63 = .ok (.iconst 0, 1) := by decide +kernel
theorem dX1_tellBest_64 : decode cX1_tellBest 64 = .ok (.iload_n 2, 1) := by decide +kernel
theorem dX1_tellBest_65 : decode cX1_tellBest 65 = .ok (.invokevirtual 98, 3) := by decide +kernel
theorem dX1_tellBest_68 : decode cX1_tellBest 68 = .ok (.istore 4, 2) := by decide +kernel
theorem dX1_tellBest_70 : decode cX1_tellBest 70 = .ok (.aload_n 1, 1) := by decide +kernel
theorem dX1_tellBest_71 : decode cX1_tellBest 71 = .ok (.iconst 0, 1) := by decide +kernel
theorem dX1_tellBest_72 : decode cX1_tellBest 72 = .ok (.iload_n 2, 1) := by decide +kernel
theorem dX1_tellBest_73 : decode cX1_tellBest 73 = .ok (.iastore, 1) := by decide +kernel
theorem dX1_tellBest_74 : decode cX1_tellBest 74 = .ok (.iconst 0, 1) := by decide +kernel
theorem dX1_tellBest_75 : decode cX1_tellBest 75 = .ok (.istore 5, 2) := by decide +kernel
theorem dX1_tellBest_77 : decode cX1_tellBest 77 = .ok (.iload 5, 2) := by decide +kernel
theorem dX1_tellBest_79 : decode cX1_tellBest 79 = .ok (.bipush 23, 2) := by decide +kernel
theorem dX1_tellBest_81 : decode cX1_tellBest 81 = .ok (.if_icmp .ge 39, 3) := by decide +kernel
theorem dX1_tellBest_84 : decode cX1_tellBest 84 = .ok (.aload_n 0, 1) := by decide +kernel
theorem dX1_tellBest_85 : decode cX1_tellBest 85 = .ok (.iload 5, 2) := by decide +kernel
theorem dX1_tellBest_87 : decode cX1_tellBest 87 = .ok (.iload 4, 2) := by decide +kernel
theorem dX1_tellBest_89 : decode cX1_tellBest 89 = .ok (.iload_n 2, 1) := by decide +kernel
theorem dX1_tellBest_90 : decode cX1_tellBest 90 = .ok (.invokevirtual 122, 3) := by decide +kernel
theorem dX1_tellBest_93 : decode cX1_tellBest 93 = .ok (.istore_n 2, 1) := by decide +kernel
theorem dX1_tellBest_94 : decode cX1_tellBest 94 = .ok (.aload_n 0, 1) := by decide +kernel
theorem dX1_tellBest_95 : decode cX1_tellBest 95 = .ok (.iload 4, 2) := by decide +kernel
theorem dX1_tellBest_97 : decode cX1_tellBest 97 = .ok (.iload 5, 2) := by decide +kernel
theorem dX1_tellBest_99 : decode cX1_tellBest 99 = .ok (.iconst 1, 1) := by decide +kernel
theorem dX1_tellBest_100 : decode cX1_tellBest 100 = .ok (.iadd, 1) := by decide +kernel
theorem dX1_tellBest_101 : decode cX1_tellBest 101 = .ok (.iload_n 2, 1) := by decide +kernel
theorem dX1_tellBest_102 : decode cX1_tellBest 102 = .ok (.invokevirtual 98, 3) := by decide +kernel
theorem dX1_tellBest_105 : decode cX1_tellBest 105 = .ok (.istore 4, 2) := by decide +kernel
theorem dX1_tellBest_107 : decode cX1_tellBest 107 = .ok (.aload_n 1, 1) := by decide +kernel
theorem dX1_tellBest_108 : decode cX1_tellBest 108 = .ok (.iload 5, 2) := by decide +kernel
theorem dX1_tellBest_110 : decode cX1_tellBest 110 = .ok (.iconst 1, 1) := by decide +kernel
theorem dX1_tellBest_111 : decode cX1_tellBest 111 = .ok (.iadd, 1) := by decide +kernel
theorem dX1_tellBest_112 : decode cX1_tellBest 112 = .ok (.iload_n 2, 1) := by decide +kernel
theorem dX1_tellBest_113 : decode cX1_tellBest 113 = .ok (.iastore, 1) := by decide +kernel
theorem dX1_tellBest_114 : decode cX1_tellBest 114 = .ok (.iinc 5 1, 3) := by decide +kernel
theorem dX1_tellBest_117 : decode cX1_tellBest 117 = .ok (.goto (-40), 3) := by decide +kernel
theorem dX1_tellBest_120 : decode cX1_tellBest 120 = .ok (.iload_n 3, 1) := by decide +kernel
theorem dX1_tellBest_121 : decode cX1_tellBest 121 = .ok (.ireturn, 1) := by decide +kernel
theorem dX1_bestNext_0 : decode cX1_bestNext 0 = .ok (.aload_n 0, 1) := by decide +kernel
theorem dX1_bestNext_1 : decode cX1_bestNext 1 = .ok (.iload_n 1, 1) := by decide +kernel
theorem dX1_bestNext_2 : decode cX1_bestNext 2 = .ok (.iload_n 2, 1) := by decide +kernel
theorem dX1_bestNext_3 : decode cX1_bestNext 3 = .ok (.invokevirtual 111, 3) := by decide +kernel
theorem dX1_bestNext_6 : decode cX1_bestNext 6 = .ok (.aload_n 0, 1) := by decide +kernel
theorem dX1_bestNext_7 : decode cX1_bestNext 7 = .ok (.iload_n 3, 1) := by decide +kernel
theorem dX1_bestNext_8 : decode cX1_bestNext 8 = .ok (.invokevirtual 114, 3) := by decide +kernel
theorem dX1_bestNext_11 : decode cX1_bestNext 11 = .ok (.istore 4, 2) := by decide +kernel
theorem dX1_bestNext_13 : decode cX1_bestNext 13 = .ok (.iconst 0, 1) := by decide +kernel
theorem dX1_bestNext_14 : decode cX1_bestNext 14 = .ok (.istore 5, 2) := by decide +kernel
theorem dX1_bestNext_16 : decode cX1_bestNext 16 = .ok (.iload 5, 2) := by decide +kernel
theorem dX1_bestNext_18 : decode cX1_bestNext 18 = .ok (.bipush 8, 2) := by decide +kernel
theorem dX1_bestNext_20 : decode cX1_bestNext 20 = .ok (.if_icmp .ge 54, 3) := by decide +kernel
theorem dX1_bestNext_23 : decode cX1_bestNext 23 = .ok (.iload 5, 2) := by decide +kernel
theorem dX1_bestNext_25 : decode cX1_bestNext 25 = .ok (.iload_n 3, 1) := by decide +kernel
theorem dX1_bestNext_26 : decode cX1_bestNext 26 = .ok (.if_icmp .ne 7, 3) := by decide +kernel
theorem dX1_bestNext_29 : decode cX1_bestNext 29 = .ok (.iconst 0, 1) := by decide +kernel
theorem dX1_bestNext_30 : decode cX1_bestNext 30 = .ok (.goto 4, 3) := by decide +kernel
theorem dX1_bestNext_33 : decode cX1_bestNext 33 = .ok (.iconst 1, 1) := by decide +kernel
theorem dX1_bestNext_34 : decode cX1_bestNext 34 = .ok (.istore 6, 2) := by decide +kernel
theorem dX1_bestNext_36 : decode cX1_bestNext 36 = .ok (.aload_n 0, 1) := by decide +kernel
theorem dX1_bestNext_37 : decode cX1_bestNext 37 = .ok (.getfield 15, 3) := by decide +kernel
theorem dX1_bestNext_40 : decode cX1_bestNext 40 = .ok (.iload_n 3, 1) := by decide +kernel
theorem dX1_bestNext_41 : decode cX1_bestNext 41 = .ok (.iaload, 1) := by decide +kernel
theorem dX1_bestNext_42 : decode cX1_bestNext 42 = .ok (.iload 5, 2) := by decide +kernel
theorem dX1_bestNext_44 : decode cX1_bestNext 44 = .ok (.invokestatic 66, 3) := by decide +kernel
theorem dX1_bestNext_47 : decode cX1_bestNext 47 = .ok (.ifCond .eq 21, 3) := by decide +kernel
theorem dX1_bestNext_50 : decode cX1_bestNext 50 = .ok (.aload_n 0, 1) := by decide +kernel
theorem dX1_bestNext_51 : decode cX1_bestNext 51 = .ok (.getfield 34, 3) := by decide +kernel
theorem dX1_bestNext_54 : decode cX1_bestNext 54 = .ok (.iload 5, 2) := by decide +kernel
theorem dX1_bestNext_56 : decode cX1_bestNext 56 = .ok (.iaload, 1) := by decide +kernel
theorem dX1_bestNext_57 : decode cX1_bestNext 57 = .ok (.iload 6, 2) := by decide +kernel
theorem dX1_bestNext_59 : decode cX1_bestNext 59 = .ok (.iadd, 1) := by decide +kernel
theorem dX1_bestNext_60 : decode cX1_bestNext 60 = .ok (.iload 4, 2) := by decide +kernel
theorem dX1_bestNext_62 : decode cX1_bestNext 62 = .ok (.if_icmp .ne 6, 3) := by decide +kernel
theorem dX1_bestNext_65 : decode cX1_bestNext 65 = .ok (.iload 5, 2) := by decide +kernel
theorem dX1_bestNext_67 : decode cX1_bestNext 67 = .ok (.ireturn, 1) := by decide +kernel
theorem dX1_bestNext_68 : decode cX1_bestNext 68 = .ok (.iinc 5 1, 3) := by decide +kernel
theorem dX1_bestNext_71 : decode cX1_bestNext 71 = .ok (.goto (-55), 3) := by decide +kernel
theorem dX1_bestNext_74 : decode cX1_bestNext 74 = .ok (.iload_n 3, 1) := by decide +kernel
theorem dX1_bestNext_75 : decode cX1_bestNext 75 = .ok (.ireturn, 1) := by decide +kernel
theorem dX1_howMany_0 : decode cX1_howMany 0 = .ok (.aload_n 0, 1) := by decide +kernel
theorem dX1_howMany_1 : decode cX1_howMany 1 = .ok (.getfield 59, 3) := by decide +kernel
theorem dX1_howMany_4 : decode cX1_howMany 4 = .ok (.iconst 1, 1) := by decide +kernel
theorem dX1_howMany_5 : decode cX1_howMany 5 = .ok (.iadd, 1) := by decide +kernel
theorem dX1_howMany_6 : decode cX1_howMany 6 = .ok (.bipush 8, 2) := by decide +kernel
theorem dX1_howMany_8 : decode cX1_howMany 8 = .ok (.imul, 1) := by decide +kernel
theorem dX1_howMany_9 : decode cX1_howMany 9 = .ok (.istore_n 1, 1) := by decide +kernel
theorem dX1_howMany_10 : decode cX1_howMany 10 = .ok (.aload_n 0, 1) := by decide +kernel
theorem dX1_howMany_11 : decode cX1_howMany 11 = .ok (.iload_n 1, 1) := by decide +kernel
theorem dX1_howMany_12 : decode cX1_howMany 12 = .ok (.invokevirtual 125, 3) := by decide +kernel
theorem dX1_howMany_15 : decode cX1_howMany 15 = .ok (.iconst 0, 1) := by decide +kernel
theorem dX1_howMany_16 : decode cX1_howMany 16 = .ok (.istore_n 2, 1) := by decide +kernel
theorem dX1_howMany_17 : decode cX1_howMany 17 = .ok (.iload_n 2, 1) := by decide +kernel
theorem dX1_howMany_18 : decode cX1_howMany 18 = .ok (.bipush 8, 2) := by decide +kernel
theorem dX1_howMany_20 : decode cX1_howMany 20 = .ok (.if_icmp .ge 39, 3) := by decide +kernel
theorem dX1_howMany_23 : decode cX1_howMany 23 = .ok (.aload_n 0, 1) := by decide +kernel
theorem dX1_howMany_24 : decode cX1_howMany 24 = .ok (.iconst 0, 1) := by decide +kernel
theorem dX1_howMany_25 : decode cX1_howMany 25 = .ok (.iload_n 2, 1) := by decide +kernel
theorem dX1_howMany_26 : decode cX1_howMany 26 = .ok (.invokevirtual 129, 3) := by decide +kernel
theorem dX1_howMany_29 : decode cX1_howMany 29 = .ok (.ifCond .eq 24, 3) := by decide +kernel
theorem dX1_howMany_32 : decode cX1_howMany 32 = .ok (.aload_n 0, 1) := by decide +kernel
theorem dX1_howMany_33 : decode cX1_howMany 33 = .ok (.getfield 31, 3) := by decide +kernel
theorem dX1_howMany_36 : decode cX1_howMany 36 = .ok (.aload_n 0, 1) := by decide +kernel
theorem dX1_howMany_37 : decode cX1_howMany 37 = .ok (.aload_n 0, 1) := by decide +kernel
theorem dX1_howMany_38 : decode cX1_howMany 38 = .ok (.getfield 59, 3) := by decide +kernel
theorem dX1_howMany_41 : decode cX1_howMany 41 = .ok (.iconst 0, 1) := by decide +kernel
theorem dX1_howMany_42 : decode cX1_howMany 42 = .ok (.iload_n 2, 1) := by decide +kernel
theorem dX1_howMany_43 : decode cX1_howMany 43 = .ok (.invokevirtual 98, 3) := by decide +kernel
theorem dX1_howMany_46 : decode cX1_howMany 46 = .ok (.bipush 8, 2) := by decide +kernel
theorem dX1_howMany_48 : decode cX1_howMany 48 = .ok (.imul, 1) := by decide +kernel
theorem dX1_howMany_49 : decode cX1_howMany 49 = .ok (.iload_n 2, 1) := by decide +kernel
theorem dX1_howMany_50 : decode cX1_howMany 50 = .ok (.iadd, 1) := by decide +kernel
theorem dX1_howMany_51 : decode cX1_howMany 51 = .ok (.iconst 1, 1) := by decide +kernel
theorem dX1_howMany_52 : decode cX1_howMany 52 = .ok (.iastore, 1) := by decide +kernel
theorem dX1_howMany_53 : decode cX1_howMany 53 = .ok (.iinc 2 1, 3) := by decide +kernel
theorem dX1_howMany_56 : decode cX1_howMany 56 = .ok (.goto (-39), 3) := by decide +kernel
theorem dX1_howMany_59 : decode cX1_howMany 59 = .ok (.aload_n 0, 1) := by decide +kernel
theorem dX1_howMany_60 : decode cX1_howMany 60 = .ok (.getfield 31, 3) := by decide +kernel
theorem dX1_howMany_63 : decode cX1_howMany 63 = .ok (.iconst 0, 1) := by decide +kernel
theorem dX1_howMany_64 : decode cX1_howMany 64 = .ok (.aload_n 0, 1) := by decide +kernel
theorem dX1_howMany_65 : decode cX1_howMany 65 = .ok (.getfield 28, 3) := by decide +kernel
theorem dX1_howMany_68 : decode cX1_howMany 68 = .ok (.iconst 0, 1) := by decide +kernel
theorem dX1_howMany_69 : decode cX1_howMany 69 = .ok (.iload_n 1, 1) := by decide +kernel
theorem dX1_howMany_70 : decode cX1_howMany 70 = .ok (.invokestatic 132, 3) := by decide +kernel
theorem dX1_howMany_73 : decode cX1_howMany 73 = .ok (.iconst 1, 1) := by decide +kernel
theorem dX1_howMany_74 : decode cX1_howMany 74 = .ok (.istore_n 2, 1) := by decide +kernel
theorem dX1_howMany_75 : decode cX1_howMany 75 = .ok (.iload_n 2, 1) := by decide +kernel
theorem dX1_howMany_76 : decode cX1_howMany 76 = .ok (.bipush 24, 2) := by decide +kernel
theorem dX1_howMany_78 : decode cX1_howMany 78 = .ok (.if_icmp .ge 66, 3) := by decide +kernel
theorem dX1_howMany_81 : decode cX1_howMany 81 = .ok (.aload_n 0, 1) := by decide +kernel
theorem dX1_howMany_82 : decode cX1_howMany 82 = .ok (.iload_n 1, 1) := by decide +kernel
theorem dX1_howMany_83 : decode cX1_howMany 83 = .ok (.invokevirtual 125, 3) := by decide +kernel
theorem dX1_howMany_86 : decode cX1_howMany 86 = .ok (.iconst 0, 1) := by decide +kernel
theorem dX1_howMany_87 : decode cX1_howMany 87 = .ok (.istore_n 3, 1) := by decide +kernel
theorem dX1_howMany_88 : decode cX1_howMany 88 = .ok (.iload_n 3, 1) := by decide +kernel
theorem dX1_howMany_89 : decode cX1_howMany 89 = .ok (.aload_n 0, 1) := by decide +kernel
theorem dX1_howMany_90 : decode cX1_howMany 90 = .ok (.getfield 59, 3) := by decide +kernel
theorem dX1_howMany_93 : decode cX1_howMany 93 = .ok (.if_icmp .gt 31, 3) := by decide +kernel
theorem dX1_howMany_96 : decode cX1_howMany 96 = .ok (.aload_n 0, 1) := by decide +kernel
theorem dX1_howMany_97 : decode cX1_howMany 97 = .ok (.getfield 21, 3) := by decide +kernel
theorem dX1_howMany_100 : decode cX1_howMany 100 = .ok (.aload_n 0, 1) := by decide +kernel
theorem dX1_howMany_101 : decode cX1_howMany 101 = .ok (.iload_n 2, 1) := by decide +kernel
theorem dX1_howMany_102 : decode cX1_howMany 102 = .ok (.iconst 1, 1) := by decide +kernel
theorem dX1_howMany_103 : decode cX1_howMany 103 = .ok (.isub, 1) := by decide +kernel
theorem dX1_howMany_104 : decode cX1_howMany 104 = .ok (.iload_n 3, 1) := by decide +kernel
theorem dX1_howMany_105 : decode cX1_howMany 105 = .ok (.invokevirtual 90, 3) := by decide +kernel
theorem dX1_howMany_108 : decode cX1_howMany 108 = .ok (.iaload, 1) := by decide +kernel
theorem dX1_howMany_109 : decode cX1_howMany 109 = .ok (.ifCond .eq 9, 3) := by decide +kernel
theorem dX1_howMany_112 : decode cX1_howMany 112 = .ok (.aload_n 0, 1) := by decide +kernel
theorem dX1_howMany_113 : decode cX1_howMany 113 = .ok (.iload_n 2, 1) := by decide +kernel
theorem dX1_howMany_114 : decode cX1_howMany 114 = .ok (.iload_n 3, 1) := by decide +kernel
theorem dX1_howMany_115 : decode cX1_howMany 115 = .ok (.invokevirtual 138, 3) := by decide +kernel
theorem dX1_howMany_118 : decode cX1_howMany 118 = .ok (.iinc 3 1, 3) := by decide +kernel
theorem dX1_howMany_121 : decode cX1_howMany 121 = .ok (.goto (-33), 3) := by decide +kernel
theorem dX1_howMany_124 : decode cX1_howMany 124 = .ok (.aload_n 0, 1) := by decide +kernel
theorem dX1_howMany_125 : decode cX1_howMany 125 = .ok (.getfield 31, 3) := by decide +kernel
theorem dX1_howMany_128 : decode cX1_howMany 128 = .ok (.iconst 0, 1) := by decide +kernel
theorem dX1_howMany_129 : decode cX1_howMany 129 = .ok (.aload_n 0, 1) := by decide +kernel
theorem dX1_howMany_130 : decode cX1_howMany 130 = .ok (.getfield 28, 3) := by decide +kernel
theorem dX1_howMany_133 : decode cX1_howMany 133 = .ok (.iconst 0, 1) := by decide +kernel
theorem dX1_howMany_134 : decode cX1_howMany 134 = .ok (.iload_n 1, 1) := by decide +kernel
theorem dX1_howMany_135 : decode cX1_howMany 135 = .ok (.invokestatic 132, 3) := by decide +kernel
theorem dX1_howMany_138 : decode cX1_howMany 138 = .ok (.iinc 2 1, 3) := by decide +kernel
theorem dX1_howMany_141 : decode cX1_howMany 141 = .ok (.goto (-66), 3) := by decide +kernel
theorem dX1_howMany_144 : decode cX1_howMany 144 = .ok (.iconst 0, 1) := by decide +kernel
theorem dX1_howMany_145 : decode cX1_howMany 145 = .ok (.istore_n 2, 1) := by decide +kernel
theorem dX1_howMany_146 : decode cX1_howMany 146 = .ok (.iconst 0, 1) := by decide +kernel
theorem dX1_howMany_147 : decode cX1_howMany 147 = .ok (.istore_n 3, 1) := by decide +kernel
theorem dX1_howMany_148 : decode cX1_howMany 148 = .ok (.iload_n 3, 1) := by decide +kernel
theorem dX1_howMany_149 : decode cX1_howMany 149 = .ok (.bipush 8, 2) := by decide +kernel
theorem dX1_howMany_151 : decode cX1_howMany 151 = .ok (.if_icmp .ge 18, 3) := by decide +kernel
theorem dX1_howMany_154 : decode cX1_howMany 154 = .ok (.iload_n 2, 1) := by decide +kernel
theorem dX1_howMany_155 : decode cX1_howMany 155 = .ok (.aload_n 0, 1) := by decide +kernel
theorem dX1_howMany_156 : decode cX1_howMany 156 = .ok (.getfield 28, 3) := by decide +kernel
theorem dX1_howMany_159 : decode cX1_howMany 159 = .ok (.iload_n 3, 1) := by decide +kernel
theorem dX1_howMany_160 : decode cX1_howMany 160 = .ok (.iaload, 1) := by decide +kernel
theorem dX1_howMany_161 : decode cX1_howMany 161 = .ok (.iadd, 1) := by decide +kernel
theorem dX1_howMany_162 : decode cX1_howMany 162 = .ok (.istore_n 2, 1) := by decide +kernel
theorem dX1_howMany_163 : decode cX1_howMany 163 = .ok (.iinc 3 1, 3) := by decide +kernel
theorem dX1_howMany_166 : decode cX1_howMany 166 = .ok (.goto (-18), 3) := by decide +kernel
theorem dX1_howMany_169 : decode cX1_howMany 169 = .ok (.iload_n 2, 1) := by decide +kernel
theorem dX1_howMany_170 : decode cX1_howMany 170 = .ok (.ldc 141, 2) := by decide +kernel
theorem dX1_howMany_172 : decode cX1_howMany 172 = .ok (.invokestatic 142, 3) := by decide +kernel
theorem dX1_howMany_175 : decode cX1_howMany 175 = .ok (.ireturn, 1) := by decide +kernel
theorem dX1_clearNext_0 : decode cX1_clearNext 0 = .ok (.iconst 0, 1) := by decide +kernel
theorem dX1_clearNext_1 : decode cX1_clearNext 1 = .ok (.istore_n 2, 1) := by decide +kernel
theorem dX1_clearNext_2 : decode cX1_clearNext 2 = .ok (.iload_n 2, 1) := by decide +kernel
theorem dX1_clearNext_3 : decode cX1_clearNext 3 = .ok (.iload_n 1, 1) := by decide +kernel
theorem dX1_clearNext_4 : decode cX1_clearNext 4 = .ok (.if_icmp .ge 16, 3) := by decide +kernel
theorem dX1_clearNext_7 : decode cX1_clearNext 7 = .ok (.aload_n 0, 1) := by decide +kernel
theorem dX1_clearNext_8 : decode cX1_clearNext 8 = .ok (.getfield 31, 3) := by decide +kernel
theorem dX1_clearNext_11 : decode cX1_clearNext 11 = .ok (.iload_n 2, 1) := by decide +kernel
theorem dX1_clearNext_12 : decode cX1_clearNext 12 = .ok (.iconst 0, 1) := by decide +kernel
theorem dX1_clearNext_13 : decode cX1_clearNext 13 = .ok (.iastore, 1) := by decide +kernel
theorem dX1_clearNext_14 : decode cX1_clearNext 14 = .ok (.iinc 2 1, 3) := by decide +kernel
theorem dX1_clearNext_17 : decode cX1_clearNext 17 = .ok (.goto (-15), 3) := by decide +kernel
theorem dX1_clearNext_20 : decode cX1_clearNext 20 = .ok (.return_, 1) := by decide +kernel
theorem dX1_leadOn_0 : decode cX1_leadOn 0 = .ok (.iconst 0, 1) := by decide +kernel
theorem dX1_leadOn_1 : decode cX1_leadOn 1 = .ok (.istore_n 3, 1) := by decide +kernel
theorem dX1_leadOn_2 : decode cX1_leadOn 2 = .ok (.iload_n 3, 1) := by decide +kernel
theorem dX1_leadOn_3 : decode cX1_leadOn 3 = .ok (.bipush 8, 2) := by decide +kernel
theorem dX1_leadOn_5 : decode cX1_leadOn 5 = .ok (.if_icmp .ge 58, 3) := by decide +kernel
theorem dX1_leadOn_8 : decode cX1_leadOn 8 = .ok (.aload_n 0, 1) := by decide +kernel
theorem dX1_leadOn_9 : decode cX1_leadOn 9 = .ok (.iload_n 1, 1) := by decide +kernel
theorem dX1_leadOn_10 : decode cX1_leadOn 10 = .ok (.iload_n 3, 1) := by decide +kernel
theorem dX1_leadOn_11 : decode cX1_leadOn 11 = .ok (.invokevirtual 129, 3) := by decide +kernel
theorem dX1_leadOn_14 : decode cX1_leadOn 14 = .ok (.ifCond .eq 43, 3) := by decide +kernel
theorem dX1_leadOn_17 : decode cX1_leadOn 17 = .ok (.aload_n 0, 1) := by decide +kernel
theorem dX1_leadOn_18 : decode cX1_leadOn 18 = .ok (.iload_n 2, 1) := by decide +kernel
theorem dX1_leadOn_19 : decode cX1_leadOn 19 = .ok (.iload_n 1, 1) := by decide +kernel
theorem dX1_leadOn_20 : decode cX1_leadOn 20 = .ok (.iload_n 3, 1) := by decide +kernel
theorem dX1_leadOn_21 : decode cX1_leadOn 21 = .ok (.invokevirtual 98, 3) := by decide +kernel
theorem dX1_leadOn_24 : decode cX1_leadOn 24 = .ok (.bipush 8, 2) := by decide +kernel
theorem dX1_leadOn_26 : decode cX1_leadOn 26 = .ok (.imul, 1) := by decide +kernel
theorem dX1_leadOn_27 : decode cX1_leadOn 27 = .ok (.iload_n 3, 1) := by decide +kernel
theorem dX1_leadOn_28 : decode cX1_leadOn 28 = .ok (.iadd, 1) := by decide +kernel
theorem dX1_leadOn_29 : decode cX1_leadOn 29 = .ok (.istore 4, 2) := by decide +kernel
theorem dX1_leadOn_31 : decode cX1_leadOn 31 = .ok (.aload_n 0, 1) := by decide +kernel
theorem dX1_leadOn_32 : decode cX1_leadOn 32 = .ok (.getfield 31, 3) := by decide +kernel
theorem dX1_leadOn_35 : decode cX1_leadOn 35 = .ok (.iload 4, 2) := by decide +kernel
theorem dX1_leadOn_37 : decode cX1_leadOn 37 = .ok (.aload_n 0, 1) := by decide +kernel
theorem dX1_leadOn_38 : decode cX1_leadOn 38 = .ok (.getfield 31, 3) := by decide +kernel
theorem dX1_leadOn_41 : decode cX1_leadOn 41 = .ok (.iload 4, 2) := by decide +kernel
theorem dX1_leadOn_43 : decode cX1_leadOn 43 = .ok (.iaload, 1) := by decide +kernel
theorem dX1_leadOn_44 : decode cX1_leadOn 44 = .ok (.aload_n 0, 1) := by decide +kernel
theorem dX1_leadOn_45 : decode cX1_leadOn 45 = .ok (.iload_n 2, 1) := by decide +kernel
theorem dX1_leadOn_46 : decode cX1_leadOn 46 = .ok (.iload_n 3, 1) := by decide +kernel
theorem dX1_leadOn_47 : decode cX1_leadOn 47 = .ok (.invokevirtual 147, 3) := by decide +kernel
theorem dX1_leadOn_50 : decode cX1_leadOn 50 = .ok (.iadd, 1) := by decide +kernel
theorem dX1_leadOn_51 : decode cX1_leadOn 51 = .ok (.ldc 141, 2) := by decide +kernel
theorem dX1_leadOn_53 : decode cX1_leadOn 53 = .ok (.invokestatic 142, 3) := by decide +kernel
theorem dX1_leadOn_56 : decode cX1_leadOn 56 = .ok (.iastore, 1) := by decide +kernel
theorem dX1_leadOn_57 : decode cX1_leadOn 57 = .ok (.iinc 3 1, 3) := by decide +kernel
theorem dX1_leadOn_60 : decode cX1_leadOn 60 = .ok (.goto (-58), 3) := by decide +kernel
theorem dX1_leadOn_63 : decode cX1_leadOn 63 = .ok (.return_, 1) := by decide +kernel
theorem dX1_leadingTo_0 : decode cX1_leadingTo 0 = .ok (.iconst 0, 1) := by decide +kernel
theorem dX1_leadingTo_1 : decode cX1_leadingTo 1 = .ok (.istore_n 3, 1) := by decide +kernel
theorem dX1_leadingTo_2 : decode cX1_leadingTo 2 = .ok (.iconst 0, 1) := by decide +kernel
theorem dX1_leadingTo_3 : decode cX1_leadingTo 3 = .ok (.istore 4, 2) := by decide +kernel
theorem dX1_leadingTo_5 : decode cX1_leadingTo 5 = .ok (.iload 4, 2) := by decide +kernel
theorem dX1_leadingTo_7 : decode cX1_leadingTo 7 = .ok (.bipush 8, 2) := by decide +kernel
theorem dX1_leadingTo_9 : decode cX1_leadingTo 9 = .ok (.if_icmp .ge 38, 3) := by decide +kernel
theorem dX1_leadingTo_12 : decode cX1_leadingTo 12 = .ok (.aload_n 0, 1) := by decide +kernel
theorem dX1_leadingTo_13 : decode cX1_leadingTo 13 = .ok (.getfield 15, 3) := by decide +kernel
theorem dX1_leadingTo_16 : decode cX1_leadingTo 16 = .ok (.iload_n 2, 1) := by decide +kernel
theorem dX1_leadingTo_17 : decode cX1_leadingTo 17 = .ok (.iaload, 1) := by decide +kernel
theorem dX1_leadingTo_18 : decode cX1_leadingTo 18 = .ok (.iload 4, 2) := by decide +kernel
theorem dX1_leadingTo_20 : decode cX1_leadingTo 20 = .ok (.invokestatic 66, 3) := by decide +kernel
theorem dX1_leadingTo_23 : decode cX1_leadingTo 23 = .ok (.ifCond .eq 18, 3) := by decide +kernel
theorem dX1_leadingTo_26 : decode cX1_leadingTo 26 = .ok (.iload_n 3, 1) := by decide +kernel
theorem dX1_leadingTo_27 : decode cX1_leadingTo 27 = .ok (.aload_n 0, 1) := by decide +kernel
theorem dX1_leadingTo_28 : decode cX1_leadingTo 28 = .ok (.getfield 28, 3) := by decide +kernel
theorem dX1_leadingTo_31 : decode cX1_leadingTo 31 = .ok (.iload_n 1, 1) := by decide +kernel
theorem dX1_leadingTo_32 : decode cX1_leadingTo 32 = .ok (.bipush 8, 2) := by decide +kernel
theorem dX1_leadingTo_34 : decode cX1_leadingTo 34 = .ok (.imul, 1) := by decide +kernel
theorem dX1_leadingTo_35 : decode cX1_leadingTo 35 = .ok (.iload 4, 2) := by decide +kernel
theorem dX1_leadingTo_37 : decode cX1_leadingTo 37 = .ok (.iadd, 1) := by decide +kernel
theorem dX1_leadingTo_38 : decode cX1_leadingTo 38 = .ok (.iaload, 1) := by decide +kernel
theorem dX1_leadingTo_39 : decode cX1_leadingTo 39 = .ok (.iadd, 1) := by decide +kernel
theorem dX1_leadingTo_40 : decode cX1_leadingTo 40 = .ok (.istore_n 3, 1) := by decide +kernel
theorem dX1_leadingTo_41 : decode cX1_leadingTo 41 = .ok (.iinc 4 1, 3) := by decide +kernel
theorem dX1_leadingTo_44 : decode cX1_leadingTo 44 = .ok (.goto (-39), 3) := by decide +kernel
theorem dX1_leadingTo_47 : decode cX1_leadingTo 47 = .ok (.iload_n 3, 1) := by decide +kernel
theorem dX1_leadingTo_48 : decode cX1_leadingTo 48 = .ok (.ireturn, 1) := by decide +kernel
theorem dX2_init_0 : decode cX2_init 0 = .ok (.aload_n 0, 1) := by decide +kernel
theorem dX2_init_1 : decode cX2_init 1 = .ok (.invokespecial 3, 3) := by decide +kernel
theorem dX2_init_4 : decode cX2_init 4 = .ok (.aload_n 0, 1) := by decide +kernel
theorem dX2_init_5 : decode cX2_init 5 = .ok (.bipush 8, 2) := by decide +kernel
theorem dX2_init_7 : decode cX2_init 7 = .ok (.newarray .int, 2) := by decide +kernel
theorem dX2_init_9 : decode cX2_init 9 = .ok (.putfield 9, 3) := by decide +kernel
theorem dX2_init_12 : decode cX2_init 12 = .ok (.return_, 1) := by decide +kernel
theorem dX2_areJoined_0 : decode cX2_areJoined 0 = .ok (.aload_n 0, 1) := by decide +kernel
theorem dX2_areJoined_1 : decode cX2_areJoined 1 = .ok (.getfield 9, 3) := by decide +kernel
theorem dX2_areJoined_4 : decode cX2_areJoined 4 = .ok (.iload_n 1, 1) := by decide +kernel
theorem dX2_areJoined_5 : decode cX2_areJoined 5 = .ok (.iaload, 1) := by decide +kernel
theorem dX2_areJoined_6 : decode cX2_areJoined 6 = .ok (.iload_n 2, 1) := by decide +kernel
theorem dX2_areJoined_7 : decode cX2_areJoined 7 = .ok (.invokestatic 15, 3) := by decide +kernel
theorem dX2_areJoined_10 : decode cX2_areJoined 10 = .ok (.ireturn, 1) := by decide +kernel
theorem dX2_join_0 : decode cX2_join 0 = .ok (.iload_n 3, 1) := by decide +kernel
theorem dX2_join_1 : decode cX2_join 1 = .ok (.ifCond .eq 30, 3) := by decide +kernel
theorem dX2_join_4 : decode cX2_join 4 = .ok (.aload_n 0, 1) := by decide +kernel
theorem dX2_join_5 : decode cX2_join 5 = .ok (.getfield 9, 3) := by decide +kernel
theorem dX2_join_8 : decode cX2_join 8 = .ok (.iload_n 1, 1) := by decide +kernel
theorem dX2_join_9 : decode cX2_join 9 = .ok (.dup2, 1) := by decide +kernel
theorem dX2_join_10 : decode cX2_join 10 = .ok (.iaload, 1) := by decide +kernel
theorem dX2_join_11 : decode cX2_join 11 = .ok (.iconst 1, 1) := by decide +kernel
theorem dX2_join_12 : decode cX2_join 12 = .ok (.iload_n 2, 1) := by decide +kernel
theorem dX2_join_13 : decode cX2_join 13 = .ok (.ishl, 1) := by decide +kernel
theorem dX2_join_14 : decode cX2_join 14 = .ok (.ior, 1) := by decide +kernel
theorem dX2_join_15 : decode cX2_join 15 = .ok (.iastore, 1) := by decide +kernel
theorem dX2_join_16 : decode cX2_join 16 = .ok (.aload_n 0, 1) := by decide +kernel
theorem dX2_join_17 : decode cX2_join 17 = .ok (.getfield 9, 3) := by decide +kernel
theorem dX2_join_20 : decode cX2_join 20 = .ok (.iload_n 2, 1) := by decide +kernel
theorem dX2_join_21 : decode cX2_join 21 = .ok (.dup2, 1) := by decide +kernel
theorem dX2_join_22 : decode cX2_join 22 = .ok (.iaload, 1) := by decide +kernel
theorem dX2_join_23 : decode cX2_join 23 = .ok (.iconst 1, 1) := by decide +kernel
theorem dX2_join_24 : decode cX2_join 24 = .ok (.iload_n 1, 1) := by decide +kernel
theorem dX2_join_25 : decode cX2_join 25 = .ok (.ishl, 1) := by decide +kernel
theorem dX2_join_26 : decode cX2_join 26 = .ok (.ior, 1) := by decide +kernel
theorem dX2_join_27 : decode cX2_join 27 = .ok (.iastore, 1) := by decide +kernel
theorem dX2_join_28 : decode cX2_join 28 = .ok (.goto 31, 3) := by decide +kernel
theorem dX2_join_31 : decode cX2_join 31 = .ok (.aload_n 0, 1) := by decide +kernel
theorem dX2_join_32 : decode cX2_join 32 = .ok (.getfield 9, 3) := by decide +kernel
theorem dX2_join_35 : decode cX2_join 35 = .ok (.iload_n 1, 1) := by decide +kernel
theorem dX2_join_36 : decode cX2_join 36 = .ok (.dup2, 1) := by decide +kernel
theorem dX2_join_37 : decode cX2_join 37 = .ok (.iaload, 1) := by decide +kernel
theorem dX2_join_38 : decode cX2_join 38 = .ok (.iconst 1, 1) := by decide +kernel
theorem dX2_join_39 : decode cX2_join 39 = .ok (.iload_n 2, 1) := by decide +kernel
theorem dX2_join_40 : decode cX2_join 40 = .ok (.ishl, 1) := by decide +kernel
theorem dX2_join_41 : decode cX2_join 41 = .ok (.iconst (-1), 1) := by decide +kernel
theorem dX2_join_42 : decode cX2_join 42 = .ok (.ixor, 1) := by decide +kernel
theorem dX2_join_43 : decode cX2_join 43 = .ok (.iand, 1) := by decide +kernel
theorem dX2_join_44 : decode cX2_join 44 = .ok (.iastore, 1) := by decide +kernel
theorem dX2_join_45 : decode cX2_join 45 = .ok (.aload_n 0, 1) := by decide +kernel
theorem dX2_join_46 : decode cX2_join 46 = .ok (.getfield 9, 3) := by decide +kernel
theorem dX2_join_49 : decode cX2_join 49 = .ok (.iload_n 2, 1) := by decide +kernel
theorem dX2_join_50 : decode cX2_join 50 = .ok (.dup2, 1) := by decide +kernel
theorem dX2_join_51 : decode cX2_join 51 = .ok (.iaload, 1) := by decide +kernel
theorem dX2_join_52 : decode cX2_join 52 = .ok (.iconst 1, 1) := by decide +kernel
theorem dX2_join_53 : decode cX2_join 53 = .ok (.iload_n 1, 1) := by decide +kernel
theorem dX2_join_54 : decode cX2_join 54 = .ok (.ishl, 1) := by decide +kernel
theorem dX2_join_55 : decode cX2_join 55 = .ok (.iconst (-1), 1) := by decide +kernel
theorem dX2_join_56 : decode cX2_join 56 = .ok (.ixor, 1) := by decide +kernel
theorem dX2_join_57 : decode cX2_join 57 = .ok (.iand, 1) := by decide +kernel
theorem dX2_join_58 : decode cX2_join 58 = .ok (.iastore, 1) := by decide +kernel
theorem dX2_join_59 : decode cX2_join 59 = .ok (.return_, 1) := by decide +kernel
theorem dX2_neighboursOf_0 : decode cX2_neighboursOf 0 = .ok (.aload_n 0, 1) := by decide +kernel
theorem dX2_neighboursOf_1 : decode cX2_neighboursOf 1 = .ok (.getfield 9, 3) := by decide +kernel
theorem dX2_neighboursOf_4 : decode cX2_neighboursOf 4 = .ok (.iload_n 1, 1) := by decide +kernel
theorem dX2_neighboursOf_5 : decode cX2_neighboursOf 5 = .ok (.iaload, 1) := by decide +kernel
theorem dX2_neighboursOf_6 : decode cX2_neighboursOf 6 = .ok (.ireturn, 1) := by decide +kernel
theorem dX2_stepFrom_0 : decode cX2_stepFrom 0 = .ok (.iload_n 1, 1) := by decide +kernel
theorem dX2_stepFrom_1 : decode cX2_stepFrom 1 = .ok (.istore_n 2, 1) := by decide +kernel
theorem dX2_stepFrom_2 : decode cX2_stepFrom 2 = .ok (.iconst 0, 1) := by decide +kernel
theorem dX2_stepFrom_3 : decode cX2_stepFrom 3 = .ok (.istore_n 3, 1) := by decide +kernel
theorem dX2_stepFrom_4 : decode cX2_stepFrom 4 = .ok (.iload_n 1, 1) := by decide +kernel
theorem dX2_stepFrom_5 : decode cX2_stepFrom 5 = .ok (.ifCond .eq 32, 3) := by decide +kernel
theorem dX2_stepFrom_8 : decode cX2_stepFrom 8 = .ok (.iload_n 3, 1) := by decide +kernel
theorem dX2_stepFrom_9 : decode cX2_stepFrom 9 = .ok (.bipush 8, 2) := by decide +kernel
theorem dX2_stepFrom_11 : decode cX2_stepFrom 11 = .ok (.if_icmp .ge 26, 3) := by decide +kernel
theorem dX2_stepFrom_14 : decode cX2_stepFrom 14 = .ok (.iload_n 1, 1) := by decide +kernel
theorem dX2_stepFrom_15 : decode cX2_stepFrom 15 = .ok (.iload_n 3, 1) := by decide +kernel
theorem dX2_stepFrom_16 : decode cX2_stepFrom 16 = .ok (.invokestatic 15, 3) := by decide +kernel
theorem dX2_stepFrom_19 : decode cX2_stepFrom 19 = .ok (.ifCond .eq 12, 3) := by decide +kernel
theorem dX2_stepFrom_22 : decode cX2_stepFrom 22 = .ok (.iload_n 2, 1) := by decide +kernel
theorem dX2_stepFrom_23 : decode cX2_stepFrom 23 = .ok (.aload_n 0, 1) := by decide +kernel
theorem dX2_stepFrom_24 : decode cX2_stepFrom 24 = .ok (.getfield 9, 3) := by decide +kernel
theorem dX2_stepFrom_27 : decode cX2_stepFrom 27 = .ok (.iload_n 3, 1) := by decide +kernel
theorem dX2_stepFrom_28 : decode cX2_stepFrom 28 = .ok (.iaload, 1) := by decide +kernel
theorem dX2_stepFrom_29 : decode cX2_stepFrom 29 = .ok (.ior, 1) := by decide +kernel
theorem dX2_stepFrom_30 : decode cX2_stepFrom 30 = .ok (.istore_n 2, 1) := by decide +kernel
theorem dX2_stepFrom_31 : decode cX2_stepFrom 31 = .ok (.iinc 3 1, 3) := by decide +kernel
theorem dX2_stepFrom_34 : decode cX2_stepFrom 34 = .ok (.goto (-30), 3) := by decide +kernel
theorem dX2_stepFrom_37 : decode cX2_stepFrom 37 = .ok (.iload_n 2, 1) := by decide +kernel
theorem dX2_stepFrom_38 : decode cX2_stepFrom 38 = .ok (.ireturn, 1) := by decide +kernel
theorem dX2_fewestMoves_0 : decode cX2_fewestMoves 0 = .ok (.iconst 1, 1) := by decide +kernel
theorem dX2_fewestMoves_1 : decode cX2_fewestMoves 1 = .ok (.iload_n 1, 1) := by decide +kernel
theorem dX2_fewestMoves_2 : decode cX2_fewestMoves 2 = .ok (.ishl, 1) := by decide +kernel
theorem dX2_fewestMoves_3 : decode cX2_fewestMoves 3 = .ok (.istore_n 3, 1) := by decide +kernel
theorem dX2_fewestMoves_4 : decode cX2_fewestMoves 4 = .ok (.iconst 0, 1) := by decide +kernel
theorem dX2_fewestMoves_5 : decode cX2_fewestMoves 5 = .ok (.istore 4, 2) := by decide +kernel
theorem dX2_fewestMoves_7 : decode cX2_fewestMoves 7 = .ok (.iload 4, 2) := by decide +kernel
theorem dX2_fewestMoves_9 : decode cX2_fewestMoves 9 = .ok (.bipush 8, 2) := by decide +kernel
theorem dX2_fewestMoves_11 : decode cX2_fewestMoves 11 = .ok (.if_icmp .ge 26, 3) := by decide +kernel
theorem dX2_fewestMoves_14 : decode cX2_fewestMoves 14 = .ok (.iload_n 3, 1) := by decide +kernel
theorem dX2_fewestMoves_15 : decode cX2_fewestMoves 15 = .ok (.iload_n 2, 1) := by decide +kernel
theorem dX2_fewestMoves_16 : decode cX2_fewestMoves 16 = .ok (.invokestatic 15, 3) := by decide +kernel
theorem dX2_fewestMoves_19 : decode cX2_fewestMoves 19 = .ok (.ifCond .eq 6, 3) := by decide +kernel
theorem dX2_fewestMoves_22 : decode cX2_fewestMoves 22 = .ok (.iload 4, 2) := by decide +kernel
theorem dX2_fewestMoves_24 : decode cX2_fewestMoves 24 = .ok (.ireturn, 1) := by decide +kernel
theorem dX2_fewestMoves_25 : decode cX2_fewestMoves 25 = .ok (.aload_n 0, 1) := by decide +kernel
theorem dX2_fewestMoves_26 : decode cX2_fewestMoves 26 = .ok (.iload_n 3, 1) := by decide +kernel
theorem dX2_fewestMoves_27 : decode cX2_fewestMoves 27 = .ok (.invokevirtual 19, 3) := by decide +kernel
theorem dX2_fewestMoves_30 : decode cX2_fewestMoves 30 = .ok (.istore_n 3, 1) := by decide +kernel
theorem dX2_fewestMoves_31 : decode cX2_fewestMoves 31 = .ok (.iinc 4 1, 3) := by decide +kernel
theorem dX2_fewestMoves_34 : decode cX2_fewestMoves 34 = .ok (.goto (-27), 3) := by decide +kernel
theorem dX2_fewestMoves_37 : decode cX2_fewestMoves 37 = .ok (.iconst (-1), 1) := by decide +kernel
theorem dX2_fewestMoves_38 : decode cX2_fewestMoves 38 = .ok (.ireturn, 1) := by decide +kernel
theorem dX2_roadCount_0 : decode cX2_roadCount 0 = .ok (.iconst 0, 1) := by decide +kernel
theorem dX2_roadCount_1 : decode cX2_roadCount 1 = .ok (.istore_n 1, 1) := by decide +kernel
theorem dX2_roadCount_2 : decode cX2_roadCount 2 = .ok (.iconst 0, 1) := by decide +kernel
theorem dX2_roadCount_3 : decode cX2_roadCount 3 = .ok (.istore_n 2, 1) := by decide +kernel
theorem dX2_roadCount_4 : decode cX2_roadCount 4 = .ok (.iload_n 2, 1) := by decide +kernel
theorem dX2_roadCount_5 : decode cX2_roadCount 5 = .ok (.bipush 8, 2) := by decide +kernel
theorem dX2_roadCount_7 : decode cX2_roadCount 7 = .ok (.if_icmp .ge 21, 3) := by decide +kernel
theorem dX2_roadCount_10 : decode cX2_roadCount 10 = .ok (.iload_n 1, 1) := by decide +kernel
theorem dX2_roadCount_11 : decode cX2_roadCount 11 = .ok (.aload_n 0, 1) := by decide +kernel
theorem dX2_roadCount_12 : decode cX2_roadCount 12 = .ok (.getfield 9, 3) := by decide +kernel
theorem dX2_roadCount_15 : decode cX2_roadCount 15 = .ok (.iload_n 2, 1) := by decide +kernel
theorem dX2_roadCount_16 : decode cX2_roadCount 16 = .ok (.iaload, 1) := by decide +kernel
theorem dX2_roadCount_17 : decode cX2_roadCount 17 = .ok (.invokestatic 23, 3) := by decide +kernel
theorem dX2_roadCount_20 : decode cX2_roadCount 20 = .ok (.iadd, 1) := by decide +kernel
theorem dX2_roadCount_21 : decode cX2_roadCount 21 = .ok (.istore_n 1, 1) := by decide +kernel
theorem dX2_roadCount_22 : decode cX2_roadCount 22 = .ok (.iinc 2 1, 3) := by decide +kernel
theorem dX2_roadCount_25 : decode cX2_roadCount 25 = .ok (.goto (-21), 3) := by decide +kernel
theorem dX2_roadCount_28 : decode cX2_roadCount 28 = .ok (.iload_n 1, 1) := by decide +kernel
theorem dX2_roadCount_29 : decode cX2_roadCount 29 = .ok (.iconst 2, 1) := by decide +kernel
theorem dX2_roadCount_30 : decode cX2_roadCount 30 = .ok (.idiv, 1) := by decide +kernel
theorem dX2_roadCount_31 : decode cX2_roadCount 31 = .ok (.ireturn, 1) := by decide +kernel
theorem dX2_takeFrom_0 : decode cX2_takeFrom 0 = .ok (.aload_n 1, 1) := by decide +kernel
theorem dX2_takeFrom_1 : decode cX2_takeFrom 1 = .ok (.getfield 9, 3) := by decide +kernel
theorem dX2_takeFrom_4 : decode cX2_takeFrom 4 = .ok (.iconst 0, 1) := by decide +kernel
theorem dX2_takeFrom_5 : decode cX2_takeFrom 5 = .ok (.aload_n 0, 1) := by decide +kernel
theorem dX2_takeFrom_6 : decode cX2_takeFrom 6 = .ok (.getfield 9, 3) := by decide +kernel
theorem dX2_takeFrom_9 : decode cX2_takeFrom 9 = .ok (.iconst 0, 1) := by decide +kernel
theorem dX2_takeFrom_10 : decode cX2_takeFrom 10 = .ok (.bipush 8, 2) := by decide +kernel
theorem dX2_takeFrom_12 : decode cX2_takeFrom 12 = .ok (.invokestatic 28, 3) := by decide +kernel
theorem dX2_takeFrom_15 : decode cX2_takeFrom 15 = .ok (.return_, 1) := by decide +kernel
theorem dX3_init_0 : decode cX3_init 0 = .ok (.aload_n 0, 1) := by decide +kernel
theorem dX3_init_1 : decode cX3_init 1 = .ok (.invokespecial 5, 3) := by decide +kernel
theorem dX3_init_4 : decode cX3_init 4 = .ok (.aload_n 0, 1) := by decide +kernel
theorem dX3_init_5 : decode cX3_init 5 = .ok (.bipush 120, 2) := by decide +kernel
theorem dX3_init_7 : decode cX3_init 7 = .ok (.newarray .int, 2) := by decide +kernel
theorem dX3_init_9 : decode cX3_init 9 = .ok (.putfield 11, 3) := by decide +kernel
theorem dX3_init_12 : decode cX3_init 12 = .ok (.aload_n 0, 1) := by decide +kernel
theorem dX3_init_13 : decode cX3_init 13 = .ok (.sipush 160, 3) := by decide +kernel
theorem dX3_init_16 : decode cX3_init 16 = .ok (.newarray .int, 2) := by decide +kernel
theorem dX3_init_18 : decode cX3_init 18 = .ok (.putfield 15, 3) := by decide +kernel
theorem dX3_init_21 : decode cX3_init 21 = .ok (.aload_n 0, 1) := by decide +kernel
theorem dX3_init_22 : decode cX3_init 22 = .ok (.bipush 6, 2) := by decide +kernel
theorem dX3_init_24 : decode cX3_init 24 = .ok (.newarray .int, 2) := by decide +kernel
theorem dX3_init_26 : decode cX3_init 26 = .ok (.putfield 18, 3) := by decide +kernel
theorem dX3_init_29 : decode cX3_init 29 = .ok (.return_, 1) := by decide +kernel
theorem dX3_size_0 : decode cX3_size 0 = .ok (.aload_n 0, 1) := by decide +kernel
theorem dX3_size_1 : decode cX3_size 1 = .ok (.getfield 21, 3) := by decide +kernel
theorem dX3_size_4 : decode cX3_size 4 = .ok (.ireturn, 1) := by decide +kernel
theorem dX3_room_0 : decode cX3_room 0 = .ok (.bipush 120, 2) := by decide +kernel
theorem dX3_room_2 : decode cX3_room 2 = .ok (.aload_n 0, 1) := by decide +kernel
theorem dX3_room_3 : decode cX3_room 3 = .ok (.getfield 21, 3) := by decide +kernel
theorem dX3_room_6 : decode cX3_room 6 = .ok (.isub, 1) := by decide +kernel
theorem dX3_room_7 : decode cX3_room 7 = .ok (.ireturn, 1) := by decide +kernel
theorem dX3_put_0 : decode cX3_put 0 = .ok (.aload_n 0, 1) := by decide +kernel
theorem dX3_put_1 : decode cX3_put 1 = .ok (.getfield 11, 3) := by decide +kernel
theorem dX3_put_4 : decode cX3_put 4 = .ok (.aload_n 0, 1) := by decide +kernel
theorem dX3_put_5 : decode cX3_put 5 = .ok (.getfield 21, 3) := by decide +kernel
theorem dX3_put_8 : decode cX3_put 8 = .ok (.iload_n 1, 1) := by decide +kernel
theorem dX3_put_9 : decode cX3_put 9 = .ok (.iastore, 1) := by decide +kernel
theorem dX3_put_10 : decode cX3_put 10 = .ok (.aload_n 0, 1) := by decide +kernel
theorem dX3_put_11 : decode cX3_put 11 = .ok (.dup, 1) := by decide +kernel
theorem dX3_put_12 : decode cX3_put 12 = .ok (.getfield 21, 3) := by decide +kernel
theorem dX3_put_15 : decode cX3_put 15 = .ok (.iconst 1, 1) := by decide +kernel
theorem dX3_put_16 : decode cX3_put 16 = .ok (.iadd, 1) := by decide +kernel
theorem dX3_put_17 : decode cX3_put 17 = .ok (.putfield 21, 3) := by decide +kernel
theorem dX3_put_20 : decode cX3_put 20 = .ok (.return_, 1) := by decide +kernel
theorem dX3_clear_0 : decode cX3_clear 0 = .ok (.aload_n 0, 1) := by decide +kernel
theorem dX3_clear_1 : decode cX3_clear 1 = .ok (.iconst 0, 1) := by decide +kernel
theorem dX3_clear_2 : decode cX3_clear 2 = .ok (.putfield 21, 3) := by decide +kernel
theorem dX3_clear_5 : decode cX3_clear 5 = .ok (.return_, 1) := by decide +kernel
theorem dX3_itemCount_0 : decode cX3_itemCount 0 = .ok (.aload_n 0, 1) := by decide +kernel
theorem dX3_itemCount_1 : decode cX3_itemCount 1 = .ok (.getfield 25, 3) := by decide +kernel
theorem dX3_itemCount_4 : decode cX3_itemCount 4 = .ok (.ireturn, 1) := by decide +kernel
theorem dX3_item_0 : decode cX3_item 0 = .ok (.aload_n 0, 1) := by decide +kernel
theorem dX3_item_1 : decode cX3_item 1 = .ok (.getfield 15, 3) := by decide +kernel
theorem dX3_item_4 : decode cX3_item 4 = .ok (.iload_n 1, 1) := by decide +kernel
theorem dX3_item_5 : decode cX3_item 5 = .ok (.bipush 8, 2) := by decide +kernel
theorem dX3_item_7 : decode cX3_item 7 = .ok (.imul, 1) := by decide +kernel
theorem dX3_item_8 : decode cX3_item 8 = .ok (.iload_n 2, 1) := by decide +kernel
theorem dX3_item_9 : decode cX3_item 9 = .ok (.iadd, 1) := by decide +kernel
theorem dX3_item_10 : decode cX3_item 10 = .ok (.iaload, 1) := by decide +kernel
theorem dX3_item_11 : decode cX3_item 11 = .ok (.ireturn, 1) := by decide +kernel
theorem dX3_findFault_0 : decode cX3_findFault 0 = .ok (.aload_n 0, 1) := by decide +kernel
theorem dX3_findFault_1 : decode cX3_findFault 1 = .ok (.aload_n 1, 1) := by decide +kernel
theorem dX3_findFault_2 : decode cX3_findFault 2 = .ok (.invokevirtual 28, 3) := by decide +kernel
theorem dX3_findFault_5 : decode cX3_findFault 5 = .ok (.putfield 33, 3) := by decide +kernel
theorem dX3_findFault_8 : decode cX3_findFault 8 = .ok (.iconst 0, 1) := by decide +kernel
theorem dX3_findFault_9 : decode cX3_findFault 9 = .ok (.istore_n 2, 1) := by decide +kernel
theorem dX3_findFault_10 : decode cX3_findFault 10 = .ok (.iload_n 2, 1) := by decide +kernel
theorem dX3_findFault_11 : decode cX3_findFault 11 = .ok (.bipush 6, 2) := by decide +kernel
theorem dX3_findFault_13 : decode cX3_findFault 13 = .ok (.if_icmp .ge 20, 3) := by decide +kernel
theorem dX3_findFault_16 : decode cX3_findFault 16 = .ok (.aload_n 0, 1) := by decide +kernel
theorem dX3_findFault_17 : decode cX3_findFault 17 = .ok (.getfield 18, 3) := by decide +kernel
theorem dX3_findFault_20 : decode cX3_findFault 20 = .ok (.iload_n 2, 1) := by decide +kernel
theorem dX3_findFault_21 : decode cX3_findFault 21 = .ok (.aload_n 1, 1) := by decide +kernel
theorem dX3_findFault_22 : decode cX3_findFault 22 = .ok (.iload_n 2, 1) := by decide +kernel
theorem dX3_findFault_23 : decode cX3_findFault 23 = .ok (.invokevirtual 36, 3) := by decide +kernel
theorem dX3_findFault_26 : decode cX3_findFault 26 = .ok (.iastore, 1) := by decide +kernel
theorem dX3_findFault_27 : decode cX3_findFault 27 = .ok (.iinc 2 1, 3) := by decide +kernel
theorem dX3_findFault_30 : decode cX3_findFault 30 = .ok (.goto (-20), 3) := by decide +kernel
theorem dX3_findFault_33 : decode cX3_findFault 33 = .ok (.aload_n 0, 1) := by decide +kernel
theorem dX3_findFault_34 : decode cX3_findFault 34 = .ok (.iconst (-1), 1) := by decide +kernel
theorem dX3_findFault_35 : decode cX3_findFault 35 = .ok (.putfield 40, 3) := by decide +kernel
theorem dX3_findFault_38 : decode cX3_findFault 38 = .ok (.aload_n 0, 1) := by decide +kernel
theorem dX3_findFault_39 : decode cX3_findFault 39 = .ok (.iconst 0, 1) := by decide +kernel
theorem dX3_findFault_40 : decode cX3_findFault 40 = .ok (.putfield 25, 3) := by decide +kernel
theorem dX3_findFault_43 : decode cX3_findFault 43 = .ok (.aload_n 0, 1) := by decide +kernel
theorem dX3_findFault_44 : decode cX3_findFault 44 = .ok (.iconst 0, 1) := by decide +kernel
theorem dX3_findFault_45 : decode cX3_findFault 45 = .ok (.putfield 43, 3) := by decide +kernel
theorem dX3_findFault_48 : decode cX3_findFault 48 = .ok (.aload_n 0, 1) := by decide +kernel
theorem dX3_findFault_49 : decode cX3_findFault 49 = .ok (.invokevirtual 46, 3) := by decide +kernel
theorem dX3_findFault_52 : decode cX3_findFault 52 = .ok (.aload_n 0, 1) := by decide +kernel
theorem dX3_findFault_53 : decode cX3_findFault 53 = .ok (.invokevirtual 49, 3) := by decide +kernel
theorem dX3_findFault_56 : decode cX3_findFault 56 = .ok (.iconst 1, 1) := by decide +kernel
theorem dX3_findFault_57 : decode cX3_findFault 57 = .ok (.istore_n 2, 1) := by decide +kernel
theorem dX3_findFault_58 : decode cX3_findFault 58 = .ok (.iload_n 2, 1) := by decide +kernel
theorem dX3_findFault_59 : decode cX3_findFault 59 = .ok (.bipush 20, 2) := by decide +kernel
theorem dX3_findFault_61 : decode cX3_findFault 61 = .ok (.if_icmp .ge 33, 3) := by decide +kernel
theorem dX3_findFault_64 : decode cX3_findFault 64 = .ok (.aload_n 0, 1) := by decide +kernel
theorem dX3_findFault_65 : decode cX3_findFault 65 = .ok (.getfield 40, 3) := by decide +kernel
theorem dX3_findFault_68 : decode cX3_findFault 68 = .ok (.iconst (-1), 1) := by decide +kernel
theorem dX3_findFault_69 : decode cX3_findFault 69 = .ok (.if_icmp .ne 25, 3) := by decide +kernel
theorem dX3_findFault_72 : decode cX3_findFault 72 = .ok (.aload_n 0, 1) := by decide +kernel
theorem dX3_findFault_73 : decode cX3_findFault 73 = .ok (.getfield 52, 3) := by decide +kernel
theorem dX3_findFault_76 : decode cX3_findFault 76 = .ok (.iconst 3, 1) := by decide +kernel
theorem dX3_findFault_77 : decode cX3_findFault 77 = .ok (.if_icmp .ne 17, 3) := by decide +kernel
theorem dX3_findFault_80 : decode cX3_findFault 80 = .ok (.aload_n 0, 1) := by decide +kernel
theorem dX3_findFault_81 : decode cX3_findFault 81 = .ok (.invokevirtual 46, 3) := by decide +kernel
theorem dX3_findFault_84 : decode cX3_findFault 84 = .ok (.aload_n 0, 1) := by decide +kernel
theorem dX3_findFault_85 : decode cX3_findFault 85 = .ok (.invokevirtual 49, 3) := by decide +kernel
theorem dX3_findFault_88 : decode cX3_findFault 88 = .ok (.iinc 2 1, 3) := by decide +kernel
theorem dX3_findFault_91 : decode cX3_findFault 91 = .ok (.goto (-33), 3) := by decide +kernel
theorem dX3_findFault_94 : decode cX3_findFault 94 = .ok (.aload_n 0, 1) := by decide +kernel
theorem dX3_findFault_95 : decode cX3_findFault 95 = .ok (.getfield 52, 3) := by decide +kernel
theorem dX3_findFault_98 : decode cX3_findFault 98 = .ok (.ifCond .eq 8, 3) := by decide +kernel
theorem dX3_findFault_101 : decode cX3_findFault 101 = .ok (.aload_n 0, 1) := by decide +kernel
theorem dX3_findFault_102 : decode cX3_findFault 102 = .ok (.invokevirtual 55, 3) := by decide +kernel
theorem dX3_findFault_105 : decode cX3_findFault 105 = .ok (.pop, 1) := by decide +kernel
theorem dX3_findFault_106 : decode cX3_findFault 106 = .ok (.aload_n 0, 1) := by decide +kernel
theorem dX3_findFault_107 : decode cX3_findFault 107 = .ok (.getfield 40, 3) := by decide +kernel
theorem dX3_findFault_110 : decode cX3_findFault 110 = .ok (.ireturn, 1) := by decide +kernel
theorem dX3_readItem_0 : decode cX3_readItem 0 = .ok (.aload_n 0, 1) := by decide +kernel
theorem dX3_readItem_1 : decode cX3_readItem 1 = .ok (.ldc 58, 2) := by decide +kernel
theorem dX3_readItem_3 : decode cX3_readItem 3 = .ok (.invokevirtual 60, 3) := by decide +kernel
theorem dX3_readItem_6 : decode cX3_readItem 6 = .ok (.ifCond .eq 52, 3) := by decide +kernel
theorem dX3_readItem_9 : decode cX3_readItem 9 = .ok (.aload_n 0, 1) := by decide +kernel
theorem dX3_readItem_10 : decode cX3_readItem 10 = .ok (.iconst 0, 1) := by decide +kernel
theorem dX3_readItem_11 : decode cX3_readItem 11 = .ok (.bipush 7, 2) := by decide +kernel
theorem dX3_readItem_13 : decode cX3_readItem 13 = .ok (.invokevirtual 64, 3) := by decide +kernel
theorem dX3_readItem_16 : decode cX3_readItem 16 = .ok (.istore_n 1, 1) := by decide +kernel
theorem dX3_readItem_17 : decode cX3_readItem 17 = .ok (.aload_n 0, 1) := by decide +kernel
theorem dX3_readItem_18 : decode cX3_readItem 18 = .ok (.getfield 52, 3) := by decide +kernel
theorem dX3_readItem_21 : decode cX3_readItem 21 = .ok (.iconst 2, 1) := by decide +kernel
theorem dX3_readItem_22 : decode cX3_readItem 22 = .ok (.if_icmp .ne 18, 3) := by decide +kernel
theorem dX3_readItem_25 : decode cX3_readItem 25 = .ok (.aload_n 0, 1) := by decide +kernel
theorem dX3_readItem_26 : decode cX3_readItem 26 = .ok (.getfield 68, 3) := by decide +kernel
theorem dX3_readItem_29 : decode cX3_readItem 29 = .ok (.iload_n 1, 1) := by decide +kernel
theorem dX3_readItem_30 : decode cX3_readItem 30 = .ok (.if_icmp .ne 10, 3) := by decide +kernel
theorem dX3_readItem_33 : decode cX3_readItem 33 = .ok (.aload_n 0, 1) := by decide +kernel
theorem dX3_readItem_34 : decode cX3_readItem 34 = .ok (.invokevirtual 55, 3) := by decide +kernel
theorem dX3_readItem_37 : decode cX3_readItem 37 = .ok (.goto 10, 3) := by decide +kernel
theorem dX3_readItem_40 : decode cX3_readItem 40 = .ok (.aload_n 0, 1) := by decide +kernel
theorem dX3_readItem_41 : decode cX3_readItem 41 = .ok (.iconst 0, 1) := by decide +kernel
theorem dX3_readItem_42 : decode cX3_readItem 42 = .ok (.bipush 7, 2) := by decide +kernel
theorem dX3_readItem_44 : decode cX3_readItem 44 = .ok (.invokevirtual 64, 3) := by decide +kernel
theorem dX3_readItem_47 : decode cX3_readItem 47 = .ok (.istore_n 2, 1) := by decide +kernel
theorem dX3_readItem_48 : decode cX3_readItem 48 = .ok (.aload_n 0, 1) := by decide +kernel
theorem dX3_readItem_49 : decode cX3_readItem 49 = .ok (.iconst 0, 1) := by decide +kernel
theorem dX3_readItem_50 : decode cX3_readItem 50 = .ok (.iload_n 1, 1) := by decide +kernel
theorem dX3_readItem_51 : decode cX3_readItem 51 = .ok (.iload_n 2, 1) := by decide +kernel
theorem dX3_readItem_52 : decode cX3_readItem 52 = .ok (.invokevirtual 71, 3) := by decide +kernel
theorem dX3_readItem_55 : decode cX3_readItem 55 = .ok (.goto 40, 3) := by decide +kernel
theorem dX3_readItem_58 : decode cX3_readItem 58 = .ok (.aload_n 0, 1) := by decide +kernel
theorem dX3_readItem_59 : decode cX3_readItem 59 = .ok (.ldc 75, 2) := by decide +kernel
theorem dX3_readItem_61 : decode cX3_readItem 61 = .ok (.invokevirtual 60, 3) := by decide +kernel
theorem dX3_readItem_64 : decode cX3_readItem 64 = .ok (.ifCond .eq 27, 3) := by decide +kernel
theorem dX3_readItem_67 : decode cX3_readItem 67 = .ok (.aload_n 0, 1) := by decide +kernel
theorem dX3_readItem_68 : decode cX3_readItem 68 = .ok (.iconst 0, 1) := by decide +kernel
theorem dX3_readItem_69 : decode cX3_readItem 69 = .ok (.iconst 5, 1) := by decide +kernel
theorem dX3_readItem_70 : decode cX3_readItem 70 = .ok (.invokevirtual 64, 3) := by decide +kernel
theorem dX3_readItem_73 : decode cX3_readItem 73 = .ok (.istore_n 1, 1) := by decide +kernel
theorem dX3_readItem_74 : decode cX3_readItem 74 = .ok (.aload_n 0, 1) := by decide +kernel
theorem dX3_readItem_75 : decode cX3_readItem 75 = .ok (.iconst 1, 1) := by decide +kernel
theorem dX3_readItem_76 : decode cX3_readItem 76 = .ok (.iload_n 1, 1) := by decide +kernel
theorem dX3_readItem_77 : decode cX3_readItem 77 = .ok (.aload_n 0, 1) := by decide +kernel
theorem dX3_readItem_78 : decode cX3_readItem 78 = .ok (.iconst 0, 1) := by decide +kernel
theorem dX3_readItem_79 : decode cX3_readItem 79 = .ok (.sipush 9999, 3) := by decide +kernel
theorem dX3_readItem_82 : decode cX3_readItem 82 = .ok (.invokevirtual 64, 3) := by decide +kernel
theorem dX3_readItem_85 : decode cX3_readItem 85 = .ok (.invokevirtual 71, 3) := by decide +kernel
theorem dX3_readItem_88 : decode cX3_readItem 88 = .ok (.goto 7, 3) := by decide +kernel
theorem dX3_readItem_91 : decode cX3_readItem 91 = .ok (.aload_n 0, 1) := by decide +kernel
theorem dX3_readItem_92 : decode cX3_readItem 92 = .ok (.invokevirtual 77, 3) := by decide +kernel
theorem dX3_readItem_95 : decode cX3_readItem 95 = .ok (.return_, 1) := by decide +kernel
theorem dX3_readTerm_0 : decode cX3_readTerm 0 = .ok (.aload_n 0, 1) := by decide +kernel
theorem dX3_readTerm_1 : decode cX3_readTerm 1 = .ok (.invokevirtual 80, 3) := by decide +kernel
theorem dX3_readTerm_4 : decode cX3_readTerm 4 = .ok (.istore_n 1, 1) := by decide +kernel
theorem dX3_readTerm_5 : decode cX3_readTerm 5 = .ok (.iload_n 1, 1) := by decide +kernel
theorem dX3_readTerm_6 : decode cX3_readTerm 6 = .ok (.iconst (-1), 1) := by decide +kernel
theorem dX3_readTerm_7 : decode cX3_readTerm 7 = .ok (.if_icmp .eq 12, 3) := by decide +kernel
theorem dX3_readTerm_10 : decode cX3_readTerm 10 = .ok (.aload_n 0, 1) := by decide +kernel
theorem dX3_readTerm_11 : decode cX3_readTerm 11 = .ok (.getfield 33, 3) := by decide +kernel
theorem dX3_readTerm_14 : decode cX3_readTerm 14 = .ok (.bipush 12, 2) := by decide +kernel
theorem dX3_readTerm_16 : decode cX3_readTerm 16 = .ok (.if_icmp .lt 9, 3) := by decide +kernel
theorem dX3_readTerm_19 : decode cX3_readTerm 19 = .ok (.aload_n 0, 1) := by decide +kernel
theorem dX3_readTerm_20 : decode cX3_readTerm 20 = .ok (.invokevirtual 55, 3) := by decide +kernel
theorem dX3_readTerm_23 : decode cX3_readTerm 23 = .ok (.pop, 1) := by decide +kernel
theorem dX3_readTerm_24 : decode cX3_readTerm 24 = .ok (.return_, 1) := by decide +kernel
theorem dX3_readTerm_25 : decode cX3_readTerm 25 = .ok (.aload_n 0, 1) := by decide +kernel
theorem dX3_readTerm_26 : decode cX3_readTerm 26 = .ok (.invokevirtual 46, 3) := by decide +kernel
theorem dX3_readTerm_29 : decode cX3_readTerm 29 = .ok (.aload_n 0, 1) := by decide +kernel
theorem dX3_readTerm_30 : decode cX3_readTerm 30 = .ok (.getfield 52, 3) := by decide +kernel
theorem dX3_readTerm_33 : decode cX3_readTerm 33 = .ok (.iconst 2, 1) := by decide +kernel
theorem dX3_readTerm_34 : decode cX3_readTerm 34 = .ok (.if_icmp .ne 31, 3) := by decide +kernel
theorem dX3_readTerm_37 : decode cX3_readTerm 37 = .ok (.aload_n 0, 1) := by decide +kernel
theorem dX3_readTerm_38 : decode cX3_readTerm 38 = .ok (.getfield 68, 3) := by decide +kernel
theorem dX3_readTerm_41 : decode cX3_readTerm 41 = .ok (.invokestatic 83, 3) := by decide +kernel
theorem dX3_readTerm_44 : decode cX3_readTerm 44 = .ok (.ifCond .eq 21, 3) := by decide +kernel
theorem dX3_readTerm_47 : decode cX3_readTerm 47 = .ok (.aload_n 0, 1) := by decide +kernel
theorem dX3_readTerm_48 : decode cX3_readTerm 48 = .ok (.getfield 18, 3) := by decide +kernel
theorem dX3_readTerm_51 : decode cX3_readTerm 51 = .ok (.aload_n 0, 1) := by decide +kernel
theorem dX3_readTerm_52 : decode cX3_readTerm 52 = .ok (.getfield 68, 3) := by decide +kernel
theorem dX3_readTerm_55 : decode cX3_readTerm 55 = .ok (.iaload, 1) := by decide +kernel
theorem dX3_readTerm_56 : decode cX3_readTerm 56 = .ok (.iconst 5, 1) := by decide +kernel
theorem dX3_readTerm_57 : decode cX3_readTerm 57 = .ok (.if_icmp .lt 8, 3) := by decide +kernel
theorem dX3_readTerm_60 : decode cX3_readTerm 60 = .ok (.aload_n 0, 1) := by decide +kernel
theorem dX3_readTerm_61 : decode cX3_readTerm 61 = .ok (.invokevirtual 55, 3) := by decide +kernel
theorem dX3_readTerm_64 : decode cX3_readTerm 64 = .ok (.pop, 1) := by decide +kernel
theorem dX3_readTerm_65 : decode cX3_readTerm 65 = .ok (.aload_n 0, 1) := by decide +kernel
theorem dX3_readTerm_66 : decode cX3_readTerm 66 = .ok (.iconst 0, 1) := by decide +kernel
theorem dX3_readTerm_67 : decode cX3_readTerm 67 = .ok (.iconst 5, 1) := by decide +kernel
theorem dX3_readTerm_68 : decode cX3_readTerm 68 = .ok (.invokevirtual 64, 3) := by decide +kernel
theorem dX3_readTerm_71 : decode cX3_readTerm 71 = .ok (.istore_n 2, 1) := by decide +kernel
theorem dX3_readTerm_72 : decode cX3_readTerm 72 = .ok (.aload_n 0, 1) := by decide +kernel
theorem dX3_readTerm_73 : decode cX3_readTerm 73 = .ok (.ldc 87, 2) := by decide +kernel
theorem dX3_readTerm_75 : decode cX3_readTerm 75 = .ok (.invokevirtual 60, 3) := by decide +kernel
theorem dX3_readTerm_78 : decode cX3_readTerm 78 = .ok (.ifCond .ne 8, 3) := by decide +kernel
theorem dX3_readTerm_81 : decode cX3_readTerm 81 = .ok (.aload_n 0, 1) := by decide +kernel
theorem dX3_readTerm_82 : decode cX3_readTerm 82 = .ok (.invokevirtual 55, 3) := by decide +kernel
theorem dX3_readTerm_85 : decode cX3_readTerm 85 = .ok (.pop, 1) := by decide +kernel
theorem dX3_readTerm_86 : decode cX3_readTerm 86 = .ok (.aload_n 0, 1) := by decide +kernel
theorem dX3_readTerm_87 : decode cX3_readTerm 87 = .ok (.iconst 0, 1) := by decide +kernel
theorem dX3_readTerm_88 : decode cX3_readTerm 88 = .ok (.bipush 7, 2) := by decide +kernel
theorem dX3_readTerm_90 : decode cX3_readTerm 90 = .ok (.invokevirtual 64, 3) := by decide +kernel
theorem dX3_readTerm_93 : decode cX3_readTerm 93 = .ok (.istore_n 3, 1) := by decide +kernel
theorem dX3_readTerm_94 : decode cX3_readTerm 94 = .ok (.aload_n 0, 1) := by decide +kernel
theorem dX3_readTerm_95 : decode cX3_readTerm 95 = .ok (.ldc 89, 2) := by decide +kernel
theorem dX3_readTerm_97 : decode cX3_readTerm 97 = .ok (.invokevirtual 60, 3) := by decide +kernel
theorem dX3_readTerm_100 : decode cX3_readTerm 100 = .ok (.istore 4, 2) := by decide +kernel
theorem dX3_readTerm_102 : decode cX3_readTerm 102 = .ok (.iload 4, 2) := by decide +kernel
theorem dX3_readTerm_104 : decode cX3_readTerm 104 = .ok (.ifCond .eq 13, 3) := by decide +kernel
theorem dX3_readTerm_107 : decode cX3_readTerm 107 = .ok (.aload_n 0, 1) := by decide +kernel
theorem dX3_readTerm_108 : decode cX3_readTerm 108 = .ok (.iconst 0, 1) := by decide +kernel
theorem dX3_readTerm_109 : decode cX3_readTerm 109 = .ok (.bipush 23, 2) := by decide +kernel
theorem dX3_readTerm_111 : decode cX3_readTerm 111 = .ok (.invokevirtual 64, 3) := by decide +kernel
theorem dX3_readTerm_114 : decode cX3_readTerm 114 = .ok (.goto 4, 3) := by decide +kernel
theorem dX3_readTerm_117 : decode cX3_readTerm 117 = .ok (.iconst 0, 1) := by decide +kernel
theorem dX3_readTerm_118 : decode cX3_readTerm 118 = .ok (.istore 5, 2) := by decide +kernel
theorem dX3_readTerm_120 : decode cX3_readTerm 120 = .ok (.iload 4, 2) := by decide +kernel
theorem dX3_readTerm_122 : decode cX3_readTerm 122 = .ok (.ifCond .eq 14, 3) := by decide +kernel
theorem dX3_readTerm_125 : decode cX3_readTerm 125 = .ok (.aload_n 0, 1) := by decide +kernel
theorem dX3_readTerm_126 : decode cX3_readTerm 126 = .ok (.iload 5, 2) := by decide +kernel
theorem dX3_readTerm_128 : decode cX3_readTerm 128 = .ok (.bipush 23, 2) := by decide +kernel
theorem dX3_readTerm_130 : decode cX3_readTerm 130 = .ok (.invokevirtual 64, 3) := by decide +kernel
theorem dX3_readTerm_133 : decode cX3_readTerm 133 = .ok (.goto 5, 3) := by decide +kernel
theorem dX3_readTerm_136 : decode cX3_readTerm 136 = .ok (.bipush 23, 2) := by decide +kernel
theorem dX3_readTerm_138 : decode cX3_readTerm 138 = .ok (.istore 6, 2) := by decide +kernel
theorem dX3_readTerm_140 : decode cX3_readTerm 140 = .ok (.aload_n 0, 1) := by decide +kernel
theorem dX3_readTerm_141 : decode cX3_readTerm 141 = .ok (.ldc 91, 2) := by decide +kernel
theorem dX3_readTerm_143 : decode cX3_readTerm 143 = .ok (.invokevirtual 60, 3) := by decide +kernel
theorem dX3_readTerm_146 : decode cX3_readTerm 146 = .ok (.istore 7, 2) := by decide +kernel
theorem dX3_readTerm_148 : decode cX3_readTerm 148 = .ok (.iload 7, 2) := by decide +kernel
theorem dX3_readTerm_150 : decode cX3_readTerm 150 = .ok (.ifCond .eq 13, 3) := by decide +kernel
theorem dX3_readTerm_153 : decode cX3_readTerm 153 = .ok (.aload_n 0, 1) := by decide +kernel
theorem dX3_readTerm_154 : decode cX3_readTerm 154 = .ok (.iconst 0, 1) := by decide +kernel
theorem dX3_readTerm_155 : decode cX3_readTerm 155 = .ok (.bipush 29, 2) := by decide +kernel
theorem dX3_readTerm_157 : decode cX3_readTerm 157 = .ok (.invokevirtual 64, 3) := by decide +kernel
theorem dX3_readTerm_160 : decode cX3_readTerm 160 = .ok (.goto 4, 3) := by decide +kernel
theorem dX3_readTerm_163 : decode cX3_readTerm 163 = .ok (.iconst 0, 1) := by decide +kernel
theorem dX3_readTerm_164 : decode cX3_readTerm 164 = .ok (.istore 8, 2) := by decide +kernel
theorem dX3_readTerm_166 : decode cX3_readTerm 166 = .ok (.iload 7, 2) := by decide +kernel
theorem dX3_readTerm_168 : decode cX3_readTerm 168 = .ok (.ifCond .eq 14, 3) := by decide +kernel
theorem dX3_readTerm_171 : decode cX3_readTerm 171 = .ok (.aload_n 0, 1) := by decide +kernel
theorem dX3_readTerm_172 : decode cX3_readTerm 172 = .ok (.iload 8, 2) := by decide +kernel
theorem dX3_readTerm_174 : decode cX3_readTerm 174 = .ok (.bipush 29, 2) := by decide +kernel
theorem dX3_readTerm_176 : decode cX3_readTerm 176 = .ok (.invokevirtual 64, 3) := by decide +kernel
theorem dX3_readTerm_179 : decode cX3_readTerm 179 = .ok (.goto 5, 3) := by decide +kernel
theorem dX3_readTerm_182 : decode cX3_readTerm 182 = .ok (.bipush 29, 2) := by decide +kernel
theorem dX3_readTerm_184 : decode cX3_readTerm 184 = .ok (.istore 9, 2) := by decide +kernel
theorem dX3_readTerm_186 : decode cX3_readTerm 186 = .ok (.aload_n 0, 1) := by decide +kernel
theorem dX3_readTerm_187 : decode cX3_readTerm 187 = .ok (.getfield 40, 3) := by decide +kernel
theorem dX3_readTerm_190 : decode cX3_readTerm 190 = .ok (.iconst (-1), 1) := by decide +kernel
theorem dX3_readTerm_191 : decode cX3_readTerm 191 = .ok (.if_icmp .ne 12, 3) := by decide +kernel
theorem dX3_readTerm_194 : decode cX3_readTerm 194 = .ok (.aload_n 0, 1) := by decide +kernel
theorem dX3_readTerm_195 : decode cX3_readTerm 195 = .ok (.getfield 25, 3) := by decide +kernel
theorem dX3_readTerm_198 : decode cX3_readTerm 198 = .ok (.bipush 20, 2) := by decide +kernel
theorem dX3_readTerm_200 : decode cX3_readTerm 200 = .ok (.if_icmp .lt 4, 3) := by decide +kernel
theorem dX3_readTerm_203 : decode cX3_readTerm 203 = .ok (.return_, 1) := by decide +kernel
theorem dX3_readTerm_204 : decode cX3_readTerm 204 = .ok (.aload_n 0, 1) := by decide +kernel
theorem dX3_readTerm_205 : decode cX3_readTerm 205 = .ok (.getfield 25, 3) := by decide +kernel
theorem dX3_readTerm_208 : decode cX3_readTerm 208 = .ok (.bipush 8, 2) := by decide +kernel
theorem dX3_readTerm_210 : decode cX3_readTerm 210 = .ok (.imul, 1) := by decide +kernel
theorem dX3_readTerm_211 : decode cX3_readTerm 211 = .ok (.istore 10, 2) := by decide +kernel
theorem dX3_readTerm_213 : decode cX3_readTerm 213 = .ok (.aload_n 0, 1) := by decide +kernel
theorem dX3_readTerm_214 : decode cX3_readTerm 214 = .ok (.iconst 2, 1) := by decide +kernel
theorem dX3_readTerm_215 : decode cX3_readTerm 215 = .ok (.iload_n 2, 1) := by decide +kernel
theorem dX3_readTerm_216 : decode cX3_readTerm 216 = .ok (.iload_n 3, 1) := by decide +kernel
theorem dX3_readTerm_217 : decode cX3_readTerm 217 = .ok (.invokevirtual 71, 3) := by decide +kernel
theorem dX3_readTerm_220 : decode cX3_readTerm 220 = .ok (.aload_n 0, 1) := by decide +kernel
theorem dX3_readTerm_221 : decode cX3_readTerm 221 = .ok (.getfield 15, 3) := by decide +kernel
