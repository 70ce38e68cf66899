theorem dX10_ways_99 : decode cX10_ways 99 = .ok (.ldc 191, 2) := by decide +kernel
theorem dX10_ways_101 : decode cX10_ways 101 = .ok (.if_icmp .le 8, 3) := by decide +kernel
theorem dX10_ways_104 : decode cX10_ways 104 = .ok (.ldc 191, 2) := by decide +kernel
theorem dX10_ways_106 : decode cX10_ways 106 = .ok (.goto 4, 3) := by decide +kernel
theorem dX10_ways_109 : decode cX10_ways 109 = .ok (.iload_n 3, 1) := by decide +kernel
theorem dX10_ways_110 : decode cX10_ways 110 = .ok (.ireturn, 1) := by decide +kernel
theorem dX10_bars_0 : decode cX10_bars 0 = .ok (.iload_n 1, 1) := by decide +kernel
theorem dX10_bars_1 : decode cX10_bars 1 = .ok (.invokestatic 98, 3) := by decide +kernel
theorem dX10_bars_4 : decode cX10_bars 4 = .ok (.ifCond .eq 10, 3) := by decide +kernel
theorem dX10_bars_7 : decode cX10_bars 7 = .ok (.iload_n 2, 1) := by decide +kernel
theorem dX10_bars_8 : decode cX10_bars 8 = .ok (.invokestatic 122, 3) := by decide +kernel
theorem dX10_bars_11 : decode cX10_bars 11 = .ok (.ifCond .ne 10, 3) := by decide +kernel
theorem dX10_bars_14 : decode cX10_bars 14 = .ok (.aload_n 0, 1) := by decide +kernel
theorem dX10_bars_15 : decode cX10_bars 15 = .ok (.ldc 68, 2) := by decide +kernel
theorem dX10_bars_17 : decode cX10_bars 17 = .ok (.invokevirtual 86, 3) := by decide +kernel
theorem dX10_bars_20 : decode cX10_bars 20 = .ok (.ireturn, 1) := by decide +kernel
theorem dX10_bars_21 : decode cX10_bars 21 = .ok (.aload_n 0, 1) := by decide +kernel
theorem dX10_bars_22 : decode cX10_bars 22 = .ok (.iload_n 1, 1) := by decide +kernel
theorem dX10_bars_23 : decode cX10_bars 23 = .ok (.iload_n 2, 1) := by decide +kernel
theorem dX10_bars_24 : decode cX10_bars 24 = .ok (.iconst (-1), 1) := by decide +kernel
theorem dX10_bars_25 : decode cX10_bars 25 = .ok (.invokevirtual 196, 3) := by decide +kernel
theorem dX10_bars_28 : decode cX10_bars 28 = .ok (.iconst (-1), 1) := by decide +kernel
theorem dX10_bars_29 : decode cX10_bars 29 = .ok (.istore_n 3, 1) := by decide +kernel
theorem dX10_bars_30 : decode cX10_bars 30 = .ok (.aload_n 0, 1) := by decide +kernel
theorem dX10_bars_31 : decode cX10_bars 31 = .ok (.invokevirtual 200, 3) := by decide +kernel
theorem dX10_bars_34 : decode cX10_bars 34 = .ok (.sipush 1000, 3) := by decide +kernel
theorem dX10_bars_37 : decode cX10_bars 37 = .ok (.if_icmp .lt 69, 3) := by decide +kernel
theorem dX10_bars_40 : decode cX10_bars 40 = .ok (.aload_n 0, 1) := by decide +kernel
theorem dX10_bars_41 : decode cX10_bars 41 = .ok (.iload_n 1, 1) := by decide +kernel
theorem dX10_bars_42 : decode cX10_bars 42 = .ok (.iload_n 2, 1) := by decide +kernel
theorem dX10_bars_43 : decode cX10_bars 43 = .ok (.invokevirtual 160, 3) := by decide +kernel
theorem dX10_bars_46 : decode cX10_bars 46 = .ok (.istore 4, 2) := by decide +kernel
theorem dX10_bars_48 : decode cX10_bars 48 = .ok (.aload_n 0, 1) := by decide +kernel
theorem dX10_bars_49 : decode cX10_bars 49 = .ok (.getfield 7, 3) := by decide +kernel
theorem dX10_bars_52 : decode cX10_bars 52 = .ok (.sipush 189, 3) := by decide +kernel
theorem dX10_bars_55 : decode cX10_bars 55 = .ok (.iaload, 1) := by decide +kernel
theorem dX10_bars_56 : decode cX10_bars 56 = .ok (.iconst 1, 1) := by decide +kernel
theorem dX10_bars_57 : decode cX10_bars 57 = .ok (.isub, 1) := by decide +kernel
theorem dX10_bars_58 : decode cX10_bars 58 = .ok (.istore 5, 2) := by decide +kernel
theorem dX10_bars_60 : decode cX10_bars 60 = .ok (.iload 5, 2) := by decide +kernel
theorem dX10_bars_62 : decode cX10_bars 62 = .ok (.ifCond .lt 44, 3) := by decide +kernel
theorem dX10_bars_65 : decode cX10_bars 65 = .ok (.iload 4, 2) := by decide +kernel
theorem dX10_bars_67 : decode cX10_bars 67 = .ok (.iload 5, 2) := by decide +kernel
theorem dX10_bars_69 : decode cX10_bars 69 = .ok (.invokestatic 90, 3) := by decide +kernel
theorem dX10_bars_72 : decode cX10_bars 72 = .ok (.ifCond .eq 28, 3) := by decide +kernel
theorem dX10_bars_75 : decode cX10_bars 75 = .ok (.aload_n 0, 1) := by decide +kernel
theorem dX10_bars_76 : decode cX10_bars 76 = .ok (.iload_n 1, 1) := by decide +kernel
theorem dX10_bars_77 : decode cX10_bars 77 = .ok (.iload_n 2, 1) := by decide +kernel
theorem dX10_bars_78 : decode cX10_bars 78 = .ok (.iload 5, 2) := by decide +kernel
theorem dX10_bars_80 : decode cX10_bars 80 = .ok (.invokevirtual 196, 3) := by decide +kernel
theorem dX10_bars_83 : decode cX10_bars 83 = .ok (.aload_n 0, 1) := by decide +kernel
theorem dX10_bars_84 : decode cX10_bars 84 = .ok (.invokevirtual 200, 3) := by decide +kernel
theorem dX10_bars_87 : decode cX10_bars 87 = .ok (.sipush 1000, 3) := by decide +kernel
theorem dX10_bars_90 : decode cX10_bars 90 = .ok (.if_icmp .ge 8, 3) := by decide +kernel
theorem dX10_bars_93 : decode cX10_bars 93 = .ok (.iload 5, 2) := by decide +kernel
theorem dX10_bars_95 : decode cX10_bars 95 = .ok (.goto 4, 3) := by decide +kernel
theorem dX10_bars_98 : decode cX10_bars 98 = .ok (.iload_n 3, 1) := by decide +kernel
theorem dX10_bars_99 : decode cX10_bars 99 = .ok (.istore_n 3, 1) := by decide +kernel
theorem dX10_bars_100 : decode cX10_bars 100 = .ok (.iinc 5 (-1), 3) := by decide +kernel
theorem dX10_bars_103 : decode cX10_bars 103 = .ok (.goto (-43), 3) := by decide +kernel
theorem dX10_bars_106 : decode cX10_bars 106 = .ok (.iload_n 3, 1) := by decide +kernel
theorem dX10_bars_107 : decode cX10_bars 107 = .ok (.ifCond .ge 12, 3) := by decide +kernel
theorem dX10_bars_110 : decode cX10_bars 110 = .ok (.aload_n 0, 1) := by decide +kernel
theorem dX10_bars_111 : decode cX10_bars 111 = .ok (.ldc 97, 2) := by decide +kernel
theorem dX10_bars_113 : decode cX10_bars 113 = .ok (.invokevirtual 86, 3) := by decide +kernel
theorem dX10_bars_116 : decode cX10_bars 116 = .ok (.goto 4, 3) := by decide +kernel
theorem dX10_bars_119 : decode cX10_bars 119 = .ok (.iload_n 3, 1) := by decide +kernel
theorem dX10_bars_120 : decode cX10_bars 120 = .ok (.ireturn, 1) := by decide +kernel
theorem dX10_risks_0 : decode cX10_risks 0 = .ok (.iconst 0, 1) := by decide +kernel
theorem dX10_risks_1 : decode cX10_risks 1 = .ok (.istore 4, 2) := by decide +kernel
theorem dX10_risks_3 : decode cX10_risks 3 = .ok (.iload 4, 2) := by decide +kernel
theorem dX10_risks_5 : decode cX10_risks 5 = .ok (.bipush 10, 2) := by decide +kernel
theorem dX10_risks_7 : decode cX10_risks 7 = .ok (.if_icmp .ge 26, 3) := by decide +kernel
theorem dX10_risks_10 : decode cX10_risks 10 = .ok (.aload_n 0, 1) := by decide +kernel
theorem dX10_risks_11 : decode cX10_risks 11 = .ok (.getfield 50, 3) := by decide +kernel
theorem dX10_risks_14 : decode cX10_risks 14 = .ok (.iload 4, 2) := by decide +kernel
theorem dX10_risks_16 : decode cX10_risks 16 = .ok (.iload 4, 2) := by decide +kernel
theorem dX10_risks_18 : decode cX10_risks 18 = .ok (.ifCond .ne 7, 3) := by decide +kernel
theorem dX10_risks_21 : decode cX10_risks 21 = .ok (.iconst 1, 1) := by decide +kernel
theorem dX10_risks_22 : decode cX10_risks 22 = .ok (.goto 4, 3) := by decide +kernel
theorem dX10_risks_25 : decode cX10_risks 25 = .ok (.iconst 0, 1) := by decide +kernel
theorem dX10_risks_26 : decode cX10_risks 26 = .ok (.iastore, 1) := by decide +kernel
theorem dX10_risks_27 : decode cX10_risks 27 = .ok (.iinc 4 1, 3) := by decide +kernel
theorem dX10_risks_30 : decode cX10_risks 30 = .ok (.goto (-27), 3) := by decide +kernel
theorem dX10_risks_33 : decode cX10_risks 33 = .ok (.iconst 0, 1) := by decide +kernel
theorem dX10_risks_34 : decode cX10_risks 34 = .ok (.istore 4, 2) := by decide +kernel
theorem dX10_risks_36 : decode cX10_risks 36 = .ok (.iload 4, 2) := by decide +kernel
theorem dX10_risks_38 : decode cX10_risks 38 = .ok (.iload_n 2, 1) := by decide +kernel
theorem dX10_risks_39 : decode cX10_risks 39 = .ok (.if_icmp .ge 74, 3) := by decide +kernel
theorem dX10_risks_42 : decode cX10_risks 42 = .ok (.iload 4, 2) := by decide +kernel
theorem dX10_risks_44 : decode cX10_risks 44 = .ok (.iconst 1, 1) := by decide +kernel
theorem dX10_risks_45 : decode cX10_risks 45 = .ok (.iadd, 1) := by decide +kernel
theorem dX10_risks_46 : decode cX10_risks 46 = .ok (.istore 5, 2) := by decide +kernel
theorem dX10_risks_48 : decode cX10_risks 48 = .ok (.iload 5, 2) := by decide +kernel
theorem dX10_risks_50 : decode cX10_risks 50 = .ok (.ifCond .le 40, 3) := by decide +kernel
theorem dX10_risks_53 : decode cX10_risks 53 = .ok (.aload_n 0, 1) := by decide +kernel
theorem dX10_risks_54 : decode cX10_risks 54 = .ok (.getfield 50, 3) := by decide +kernel
theorem dX10_risks_57 : decode cX10_risks 57 = .ok (.iload 5, 2) := by decide +kernel
theorem dX10_risks_59 : decode cX10_risks 59 = .ok (.aload_n 0, 1) := by decide +kernel
theorem dX10_risks_60 : decode cX10_risks 60 = .ok (.getfield 50, 3) := by decide +kernel
theorem dX10_risks_63 : decode cX10_risks 63 = .ok (.iload 5, 2) := by decide +kernel
theorem dX10_risks_65 : decode cX10_risks 65 = .ok (.iaload, 1) := by decide +kernel
theorem dX10_risks_66 : decode cX10_risks 66 = .ok (.bipush 10, 2) := by decide +kernel
theorem dX10_risks_68 : decode cX10_risks 68 = .ok (.iload_n 1, 1) := by decide +kernel
theorem dX10_risks_69 : decode cX10_risks 69 = .ok (.isub, 1) := by decide +kernel
theorem dX10_risks_70 : decode cX10_risks 70 = .ok (.imul, 1) := by decide +kernel
theorem dX10_risks_71 : decode cX10_risks 71 = .ok (.aload_n 0, 1) := by decide +kernel
theorem dX10_risks_72 : decode cX10_risks 72 = .ok (.getfield 50, 3) := by decide +kernel
theorem dX10_risks_75 : decode cX10_risks 75 = .ok (.iload 5, 2) := by decide +kernel
theorem dX10_risks_77 : decode cX10_risks 77 = .ok (.iconst 1, 1) := by decide +kernel
theorem dX10_risks_78 : decode cX10_risks 78 = .ok (.isub, 1) := by decide +kernel
theorem dX10_risks_79 : decode cX10_risks 79 = .ok (.iaload, 1) := by decide +kernel
theorem dX10_risks_80 : decode cX10_risks 80 = .ok (.iload_n 1, 1) := by decide +kernel
theorem dX10_risks_81 : decode cX10_risks 81 = .ok (.imul, 1) := by decide +kernel
theorem dX10_risks_82 : decode cX10_risks 82 = .ok (.iadd, 1) := by decide +kernel
theorem dX10_risks_83 : decode cX10_risks 83 = .ok (.iastore, 1) := by decide +kernel
theorem dX10_risks_84 : decode cX10_risks 84 = .ok (.iinc 5 (-1), 3) := by decide +kernel
theorem dX10_risks_87 : decode cX10_risks 87 = .ok (.goto (-39), 3) := by decide +kernel
theorem dX10_risks_90 : decode cX10_risks 90 = .ok (.aload_n 0, 1) := by decide +kernel
theorem dX10_risks_91 : decode cX10_risks 91 = .ok (.getfield 50, 3) := by decide +kernel
theorem dX10_risks_94 : decode cX10_risks 94 = .ok (.iconst 0, 1) := by decide +kernel
theorem dX10_risks_95 : decode cX10_risks 95 = .ok (.aload_n 0, 1) := by decide +kernel
theorem dX10_risks_96 : decode cX10_risks 96 = .ok (.getfield 50, 3) := by decide +kernel
theorem dX10_risks_99 : decode cX10_risks 99 = .ok (.iconst 0, 1) := by decide +kernel
theorem dX10_risks_100 : decode cX10_risks 100 = .ok (.iaload, 1) := by decide +kernel
theorem dX10_risks_101 : decode cX10_risks 101 = .ok (.bipush 10, 2) := by decide +kernel
theorem dX10_risks_103 : decode cX10_risks 103 = .ok (.iload_n 1, 1) := by decide +kernel
theorem dX10_risks_104 : decode cX10_risks 104 = .ok (.isub, 1) := by decide +kernel
theorem dX10_risks_105 : decode cX10_risks 105 = .ok (.imul, 1) := by decide +kernel
theorem dX10_risks_106 : decode cX10_risks 106 = .ok (.iastore, 1) := by decide +kernel
theorem dX10_risks_107 : decode cX10_risks 107 = .ok (.iinc 4 1, 3) := by decide +kernel
theorem dX10_risks_110 : decode cX10_risks 110 = .ok (.goto (-74), 3) := by decide +kernel
theorem dX10_risks_113 : decode cX10_risks 113 = .ok (.iconst 0, 1) := by decide +kernel
theorem dX10_risks_114 : decode cX10_risks 114 = .ok (.istore 4, 2) := by decide +kernel
theorem dX10_risks_116 : decode cX10_risks 116 = .ok (.iload_n 3, 1) := by decide +kernel
theorem dX10_risks_117 : decode cX10_risks 117 = .ok (.istore 5, 2) := by decide +kernel
theorem dX10_risks_119 : decode cX10_risks 119 = .ok (.iload 5, 2) := by decide +kernel
theorem dX10_risks_121 : decode cX10_risks 121 = .ok (.iload_n 2, 1) := by decide +kernel
theorem dX10_risks_122 : decode cX10_risks 122 = .ok (.if_icmp .gt 21, 3) := by decide +kernel
theorem dX10_risks_125 : decode cX10_risks 125 = .ok (.iload 4, 2) := by decide +kernel
theorem dX10_risks_127 : decode cX10_risks 127 = .ok (.aload_n 0, 1) := by decide +kernel
theorem dX10_risks_128 : decode cX10_risks 128 = .ok (.getfield 50, 3) := by decide +kernel
theorem dX10_risks_131 : decode cX10_risks 131 = .ok (.iload 5, 2) := by decide +kernel
theorem dX10_risks_133 : decode cX10_risks 133 = .ok (.iaload, 1) := by decide +kernel
theorem dX10_risks_134 : decode cX10_risks 134 = .ok (.iadd, 1) := by decide +kernel
theorem dX10_risks_135 : decode cX10_risks 135 = .ok (.istore 4, 2) := by decide +kernel
theorem dX10_risks_137 : decode cX10_risks 137 = .ok (.iinc 5 1, 3) := by decide +kernel
theorem dX10_risks_140 : decode cX10_risks 140 = .ok (.goto (-21), 3) := by decide +kernel
theorem dX10_risks_143 : decode cX10_risks 143 = .ok (.iload 4, 2) := by decide +kernel
theorem dX10_risks_145 : decode cX10_risks 145 = .ok (.ireturn, 1) := by decide +kernel
theorem dX10_tens_0 : decode cX10_tens 0 = .ok (.iconst 1, 1) := by decide +kernel
theorem dX10_tens_1 : decode cX10_tens 1 = .ok (.istore_n 1, 1) := by decide +kernel
theorem dX10_tens_2 : decode cX10_tens 2 = .ok (.iconst 0, 1) := by decide +kernel
theorem dX10_tens_3 : decode cX10_tens 3 = .ok (.istore_n 2, 1) := by decide +kernel
theorem dX10_tens_4 : decode cX10_tens 4 = .ok (.iload_n 2, 1) := by decide +kernel
theorem dX10_tens_5 : decode cX10_tens 5 = .ok (.iload_n 0, 1) := by decide +kernel
theorem dX10_tens_6 : decode cX10_tens 6 = .ok (.if_icmp .ge 14, 3) := by decide +kernel
theorem dX10_tens_9 : decode cX10_tens 9 = .ok (.iload_n 1, 1) := by decide +kernel
theorem dX10_tens_10 : decode cX10_tens 10 = .ok (.bipush 10, 2) := by decide +kernel
theorem dX10_tens_12 : decode cX10_tens 12 = .ok (.imul, 1) := by decide +kernel
theorem dX10_tens_13 : decode cX10_tens 13 = .ok (.istore_n 1, 1) := by decide +kernel
theorem dX10_tens_14 : decode cX10_tens 14 = .ok (.iinc 2 1, 3) := by decide +kernel
theorem dX10_tens_17 : decode cX10_tens 17 = .ok (.goto (-13), 3) := by decide +kernel
theorem dX10_tens_20 : decode cX10_tens 20 = .ok (.iload_n 1, 1) := by decide +kernel
theorem dX10_tens_21 : decode cX10_tens 21 = .ok (.ireturn, 1) := by decide +kernel
theorem dX10_risk_0 : decode cX10_risk 0 = .ok (.iload_n 1, 1) := by decide +kernel
theorem dX10_risk_1 : decode cX10_risk 1 = .ok (.i2l, 1) := by decide +kernel
theorem dX10_risk_2 : decode cX10_risk 2 = .ok (.lconst 0, 1) := by decide +kernel
theorem dX10_risk_3 : decode cX10_risk 3 = .ok (.ldc2_w 207, 3) := by decide +kernel
theorem dX10_risk_6 : decode cX10_risk 6 = .ok (.invokestatic 71, 3) := by decide +kernel
theorem dX10_risk_9 : decode cX10_risk 9 = .ok (.ifCond .eq 38, 3) := by decide +kernel
theorem dX10_risk_12 : decode cX10_risk 12 = .ok (.iload_n 2, 1) := by decide +kernel
theorem dX10_risk_13 : decode cX10_risk 13 = .ok (.i2l, 1) := by decide +kernel
theorem dX10_risk_14 : decode cX10_risk 14 = .ok (.lconst 1, 1) := by decide +kernel
theorem dX10_risk_15 : decode cX10_risk 15 = .ok (.ldc2_w 209, 3) := by decide +kernel
theorem dX10_risk_18 : decode cX10_risk 18 = .ok (.invokestatic 71, 3) := by decide +kernel
theorem dX10_risk_21 : decode cX10_risk 21 = .ok (.ifCond .eq 26, 3) := by decide +kernel
theorem dX10_risk_24 : decode cX10_risk 24 = .ok (.iload_n 3, 1) := by decide +kernel
theorem dX10_risk_25 : decode cX10_risk 25 = .ok (.i2l, 1) := by decide +kernel
theorem dX10_risk_26 : decode cX10_risk 26 = .ok (.lconst 0, 1) := by decide +kernel
theorem dX10_risk_27 : decode cX10_risk 27 = .ok (.ldc2_w 209, 3) := by decide +kernel
theorem dX10_risk_30 : decode cX10_risk 30 = .ok (.invokestatic 71, 3) := by decide +kernel
theorem dX10_risk_33 : decode cX10_risk 33 = .ok (.ifCond .eq 14, 3) := by decide +kernel
theorem dX10_risk_36 : decode cX10_risk 36 = .ok (.iload 4, 2) := by decide +kernel
theorem dX10_risk_38 : decode cX10_risk 38 = .ok (.i2l, 1) := by decide +kernel
theorem dX10_risk_39 : decode cX10_risk 39 = .ok (.lconst 0, 1) := by decide +kernel
theorem dX10_risk_40 : decode cX10_risk 40 = .ok (.lconst 1, 1) := by decide +kernel
theorem dX10_risk_41 : decode cX10_risk 41 = .ok (.invokestatic 71, 3) := by decide +kernel
theorem dX10_risk_44 : decode cX10_risk 44 = .ok (.ifCond .ne 10, 3) := by decide +kernel
theorem dX10_risk_47 : decode cX10_risk 47 = .ok (.aload_n 0, 1) := by decide +kernel
theorem dX10_risk_48 : decode cX10_risk 48 = .ok (.ldc 68, 2) := by decide +kernel
theorem dX10_risk_50 : decode cX10_risk 50 = .ok (.invokevirtual 86, 3) := by decide +kernel
theorem dX10_risk_53 : decode cX10_risk 53 = .ok (.ireturn, 1) := by decide +kernel
theorem dX10_risk_54 : decode cX10_risk 54 = .ok (.aload_n 0, 1) := by decide +kernel
theorem dX10_risk_55 : decode cX10_risk 55 = .ok (.iload_n 1, 1) := by decide +kernel
theorem dX10_risk_56 : decode cX10_risk 56 = .ok (.iload_n 2, 1) := by decide +kernel
theorem dX10_risk_57 : decode cX10_risk 57 = .ok (.iload_n 3, 1) := by decide +kernel
theorem dX10_risk_58 : decode cX10_risk 58 = .ok (.invokevirtual 211, 3) := by decide +kernel
theorem dX10_risk_61 : decode cX10_risk 61 = .ok (.istore 5, 2) := by decide +kernel
theorem dX10_risk_63 : decode cX10_risk 63 = .ok (.iload_n 2, 1) := by decide +kernel
theorem dX10_risk_64 : decode cX10_risk 64 = .ok (.invokestatic 214, 3) := by decide +kernel
theorem dX10_risk_67 : decode cX10_risk 67 = .ok (.istore 6, 2) := by decide +kernel
theorem dX10_risk_69 : decode cX10_risk 69 = .ok (.iload 5, 2) := by decide +kernel
theorem dX10_risk_71 : decode cX10_risk 71 = .ok (.istore 7, 2) := by decide +kernel
theorem dX10_risk_73 : decode cX10_risk 73 = .ok (.iload 6, 2) := by decide +kernel
theorem dX10_risk_75 : decode cX10_risk 75 = .ok (.istore 8, 2) := by decide +kernel
theorem dX10_risk_77 : decode cX10_risk 77 = .ok (.iload 8, 2) := by decide +kernel
theorem dX10_risk_79 : decode cX10_risk 79 = .ok (.ifCond .le 21, 3) := by decide +kernel
theorem dX10_risk_82 : decode cX10_risk 82 = .ok (.iload 7, 2) := by decide +kernel
theorem dX10_risk_84 : decode cX10_risk 84 = .ok (.iload 8, 2) := by decide +kernel
theorem dX10_risk_86 : decode cX10_risk 86 = .ok (.irem, 1) := by decide +kernel
theorem dX10_risk_87 : decode cX10_risk 87 = .ok (.istore 9, 2) := by decide +kernel
theorem dX10_risk_89 : decode cX10_risk 89 = .ok (.iload 8, 2) := by decide +kernel
theorem dX10_risk_91 : decode cX10_risk 91 = .ok (.istore 7, 2) := by decide +kernel
theorem dX10_risk_93 : decode cX10_risk 93 = .ok (.iload 9, 2) := by decide +kernel
theorem dX10_risk_95 : decode cX10_risk 95 = .ok (.istore 8, 2) := by decide +kernel
theorem dX10_risk_97 : decode cX10_risk 97 = .ok (.goto (-20), 3) := by decide +kernel
theorem dX10_risk_100 : decode cX10_risk 100 = .ok (.iload 4, 2) := by decide +kernel
theorem dX10_risk_102 : decode cX10_risk 102 = .ok (.ifCond .ne 11, 3) := by decide +kernel
theorem dX10_risk_105 : decode cX10_risk 105 = .ok (.iload 5, 2) := by decide +kernel
theorem dX10_risk_107 : decode cX10_risk 107 = .ok (.iload 7, 2) := by decide +kernel
theorem dX10_risk_109 : decode cX10_risk 109 = .ok (.idiv, 1) := by decide +kernel
theorem dX10_risk_110 : decode cX10_risk 110 = .ok (.goto 8, 3) := by decide +kernel
theorem dX10_risk_113 : decode cX10_risk 113 = .ok (.iload 6, 2) := by decide +kernel
theorem dX10_risk_115 : decode cX10_risk 115 = .ok (.iload 7, 2) := by decide +kernel
theorem dX10_risk_117 : decode cX10_risk 117 = .ok (.idiv, 1) := by decide +kernel
theorem dX10_risk_118 : decode cX10_risk 118 = .ok (.ireturn, 1) := by decide +kernel
theorem dX10_strict_0 : decode cX10_strict 0 = .ok (.iload_n 1, 1) := by decide +kernel
theorem dX10_strict_1 : decode cX10_strict 1 = .ok (.i2l, 1) := by decide +kernel
theorem dX10_strict_2 : decode cX10_strict 2 = .ok (.lconst 0, 1) := by decide +kernel
theorem dX10_strict_3 : decode cX10_strict 3 = .ok (.ldc2_w 207, 3) := by decide +kernel
theorem dX10_strict_6 : decode cX10_strict 6 = .ok (.invokestatic 71, 3) := by decide +kernel
theorem dX10_strict_9 : decode cX10_strict 9 = .ok (.ifCond .eq 27, 3) := by decide +kernel
theorem dX10_strict_12 : decode cX10_strict 12 = .ok (.iload_n 2, 1) := by decide +kernel
theorem dX10_strict_13 : decode cX10_strict 13 = .ok (.i2l, 1) := by decide +kernel
theorem dX10_strict_14 : decode cX10_strict 14 = .ok (.lconst 1, 1) := by decide +kernel
theorem dX10_strict_15 : decode cX10_strict 15 = .ok (.ldc2_w 209, 3) := by decide +kernel
theorem dX10_strict_18 : decode cX10_strict 18 = .ok (.invokestatic 71, 3) := by decide +kernel
theorem dX10_strict_21 : decode cX10_strict 21 = .ok (.ifCond .eq 15, 3) := by decide +kernel
theorem dX10_strict_24 : decode cX10_strict 24 = .ok (.iload_n 3, 1) := by decide +kernel
theorem dX10_strict_25 : decode cX10_strict 25 = .ok (.i2l, 1) := by decide +kernel
theorem dX10_strict_26 : decode cX10_strict 26 = .ok (.lconst 0, 1) := by decide +kernel
theorem dX10_strict_27 : decode cX10_strict 27 = .ok (.ldc2_w 217, 3) := by decide +kernel
theorem dX10_strict_30 : decode cX10_strict 30 = .ok (.invokestatic 71, 3) := by decide +kernel
theorem dX10_strict_33 : decode cX10_strict 33 = .ok (.ifCond .ne 10, 3) := by decide +kernel
theorem dX10_strict_36 : decode cX10_strict 36 = .ok (.aload_n 0, 1) := by decide +kernel
theorem dX10_strict_37 : decode cX10_strict 37 = .ok (.ldc 68, 2) := by decide +kernel
theorem dX10_strict_39 : decode cX10_strict 39 = .ok (.invokevirtual 86, 3) := by decide +kernel
theorem dX10_strict_42 : decode cX10_strict 42 = .ok (.ireturn, 1) := by decide +kernel
theorem dX10_strict_43 : decode cX10_strict 43 = .ok (.iconst 1, 1) := by decide +kernel
theorem dX10_strict_44 : decode cX10_strict 44 = .ok (.istore 4, 2) := by decide +kernel
theorem dX10_strict_46 : decode cX10_strict 46 = .ok (.iload 4, 2) := by decide +kernel
theorem dX10_strict_48 : decode cX10_strict 48 = .ok (.bipush 9, 2) := by decide +kernel
theorem dX10_strict_50 : decode cX10_strict 50 = .ok (.if_icmp .gt 37, 3) := by decide +kernel
theorem dX10_strict_53 : decode cX10_strict 53 = .ok (.ldc2_w 217, 3) := by decide +kernel
theorem dX10_strict_56 : decode cX10_strict 56 = .ok (.aload_n 0, 1) := by decide +kernel
theorem dX10_strict_57 : decode cX10_strict 57 = .ok (.iload_n 1, 1) := by decide +kernel
theorem dX10_strict_58 : decode cX10_strict 58 = .ok (.iload_n 2, 1) := by decide +kernel
theorem dX10_strict_59 : decode cX10_strict 59 = .ok (.iload 4, 2) := by decide +kernel
theorem dX10_strict_61 : decode cX10_strict 61 = .ok (.invokevirtual 211, 3) := by decide +kernel
theorem dX10_strict_64 : decode cX10_strict 64 = .ok (.i2l, 1) := by decide +kernel
theorem dX10_strict_65 : decode cX10_strict 65 = .ok (.lmul, 1) := by decide +kernel
theorem dX10_strict_66 : decode cX10_strict 66 = .ok (.iload_n 3, 1) := by decide +kernel
theorem dX10_strict_67 : decode cX10_strict 67 = .ok (.i2l, 1) := by decide +kernel
theorem dX10_strict_68 : decode cX10_strict 68 = .ok (.iload_n 2, 1) := by decide +kernel
theorem dX10_strict_69 : decode cX10_strict 69 = .ok (.invokestatic 214, 3) := by decide +kernel
theorem dX10_strict_72 : decode cX10_strict 72 = .ok (.i2l, 1) := by decide +kernel
theorem dX10_strict_73 : decode cX10_strict 73 = .ok (.lmul, 1) := by decide +kernel
theorem dX10_strict_74 : decode cX10_strict 74 = .ok (.lcmp, 1) := by decide +kernel
theorem dX10_strict_75 : decode cX10_strict 75 = .ok (.ifCond .gt 6, 3) := by decide +kernel
theorem dX10_strict_78 : decode cX10_strict 78 = .ok (.iload 4, 2) := by decide +kernel
theorem dX10_strict_80 : decode cX10_strict 80 = .ok (.ireturn, 1) := by decide +kernel
theorem dX10_strict_81 : decode cX10_strict 81 = .ok (.iinc 4 1, 3) := by decide +kernel
theorem dX10_strict_84 : decode cX10_strict 84 = .ok (.goto (-38), 3) := by decide +kernel
theorem dX10_strict_87 : decode cX10_strict 87 = .ok (.aload_n 0, 1) := by decide +kernel
theorem dX10_strict_88 : decode cX10_strict 88 = .ok (.ldc 97, 2) := by decide +kernel
theorem dX10_strict_90 : decode cX10_strict 90 = .ok (.invokevirtual 86, 3) := by decide +kernel
theorem dX10_strict_93 : decode cX10_strict 93 = .ok (.ireturn, 1) := by decide +kernel
theorem dX10_given_0 : decode cX10_given 0 = .ok (.aload_n 0, 1) := by decide +kernel
theorem dX10_given_1 : decode cX10_given 1 = .ok (.getfield 7, 3) := by decide +kernel
theorem dX10_given_4 : decode cX10_given 4 = .ok (.sipush 295, 3) := by decide +kernel
theorem dX10_given_7 : decode cX10_given 7 = .ok (.bipush 6, 2) := by decide +kernel
theorem dX10_given_9 : decode cX10_given 9 = .ok (.iload_n 1, 1) := by decide +kernel
theorem dX10_given_10 : decode cX10_given 10 = .ok (.imul, 1) := by decide +kernel
theorem dX10_given_11 : decode cX10_given 11 = .ok (.iadd, 1) := by decide +kernel
theorem dX10_given_12 : decode cX10_given 12 = .ok (.iload_n 2, 1) := by decide +kernel
theorem dX10_given_13 : decode cX10_given 13 = .ok (.iadd, 1) := by decide +kernel
theorem dX10_given_14 : decode cX10_given 14 = .ok (.iaload, 1) := by decide +kernel
theorem dX10_given_15 : decode cX10_given 15 = .ok (.ireturn, 1) := by decide +kernel
theorem dX10_givenBy_0 : decode cX10_givenBy 0 = .ok (.iconst 0, 1) := by decide +kernel
theorem dX10_givenBy_1 : decode cX10_givenBy 1 = .ok (.istore_n 2, 1) := by decide +kernel
theorem dX10_givenBy_2 : decode cX10_givenBy 2 = .ok (.iconst 0, 1) := by decide +kernel
theorem dX10_givenBy_3 : decode cX10_givenBy 3 = .ok (.istore_n 3, 1) := by decide +kernel
theorem dX10_givenBy_4 : decode cX10_givenBy 4 = .ok (.iload_n 3, 1) := by decide +kernel
theorem dX10_givenBy_5 : decode cX10_givenBy 5 = .ok (.bipush 6, 2) := by decide +kernel
theorem dX10_givenBy_7 : decode cX10_givenBy 7 = .ok (.if_icmp .ge 18, 3) := by decide +kernel
theorem dX10_givenBy_10 : decode cX10_givenBy 10 = .ok (.iload_n 2, 1) := by decide +kernel
theorem dX10_givenBy_11 : decode cX10_givenBy 11 = .ok (.aload_n 0, 1) := by decide +kernel
theorem dX10_givenBy_12 : decode cX10_givenBy 12 = .ok (.iload_n 1, 1) := by decide +kernel
theorem dX10_givenBy_13 : decode cX10_givenBy 13 = .ok (.iload_n 3, 1) := by decide +kernel
theorem dX10_givenBy_14 : decode cX10_givenBy 14 = .ok (.invokevirtual 219, 3) := by decide +kernel
theorem dX10_givenBy_17 : decode cX10_givenBy 17 = .ok (.iadd, 1) := by decide +kernel
theorem dX10_givenBy_18 : decode cX10_givenBy 18 = .ok (.istore_n 2, 1) := by decide +kernel
theorem dX10_givenBy_19 : decode cX10_givenBy 19 = .ok (.iinc 3 1, 3) := by decide +kernel
theorem dX10_givenBy_22 : decode cX10_givenBy 22 = .ok (.goto (-18), 3) := by decide +kernel
theorem dX10_givenBy_25 : decode cX10_givenBy 25 = .ok (.iload_n 2, 1) := by decide +kernel
theorem dX10_givenBy_26 : decode cX10_givenBy 26 = .ok (.ireturn, 1) := by decide +kernel
theorem dX10_givenFor_0 : decode cX10_givenFor 0 = .ok (.iconst 0, 1) := by decide +kernel
theorem dX10_givenFor_1 : decode cX10_givenFor 1 = .ok (.istore_n 2, 1) := by decide +kernel
theorem dX10_givenFor_2 : decode cX10_givenFor 2 = .ok (.iconst 0, 1) := by decide +kernel
theorem dX10_givenFor_3 : decode cX10_givenFor 3 = .ok (.istore_n 3, 1) := by decide +kernel
theorem dX10_givenFor_4 : decode cX10_givenFor 4 = .ok (.iload_n 3, 1) := by decide +kernel
theorem dX10_givenFor_5 : decode cX10_givenFor 5 = .ok (.iconst 5, 1) := by decide +kernel
theorem dX10_givenFor_6 : decode cX10_givenFor 6 = .ok (.if_icmp .ge 18, 3) := by decide +kernel
theorem dX10_givenFor_9 : decode cX10_givenFor 9 = .ok (.iload_n 2, 1) := by decide +kernel
theorem dX10_givenFor_10 : decode cX10_givenFor 10 = .ok (.aload_n 0, 1) := by decide +kernel
theorem dX10_givenFor_11 : decode cX10_givenFor 11 = .ok (.iload_n 3, 1) := by decide +kernel
theorem dX10_givenFor_12 : decode cX10_givenFor 12 = .ok (.iload_n 1, 1) := by decide +kernel
theorem dX10_givenFor_13 : decode cX10_givenFor 13 = .ok (.invokevirtual 219, 3) := by decide +kernel
theorem dX10_givenFor_16 : decode cX10_givenFor 16 = .ok (.iadd, 1) := by decide +kernel
theorem dX10_givenFor_17 : decode cX10_givenFor 17 = .ok (.istore_n 2, 1) := by decide +kernel
theorem dX10_givenFor_18 : decode cX10_givenFor 18 = .ok (.iinc 3 1, 3) := by decide +kernel
theorem dX10_givenFor_21 : decode cX10_givenFor 21 = .ok (.goto (-17), 3) := by decide +kernel
theorem dX10_givenFor_24 : decode cX10_givenFor 24 = .ok (.iload_n 2, 1) := by decide +kernel
theorem dX10_givenFor_25 : decode cX10_givenFor 25 = .ok (.ireturn, 1) := by decide +kernel
theorem dX10_surety_0 : decode cX10_surety 0 = .ok (.iload_n 1, 1) := by decide +kernel
theorem dX10_surety_1 : decode cX10_surety 1 = .ok (.i2l, 1) := by decide +kernel
theorem dX10_surety_2 : decode cX10_surety 2 = .ok (.lconst 0, 1) := by decide +kernel
theorem dX10_surety_3 : decode cX10_surety 3 = .ok (.ldc2_w 109, 3) := by decide +kernel
theorem dX10_surety_6 : decode cX10_surety 6 = .ok (.invokestatic 71, 3) := by decide +kernel
theorem dX10_surety_9 : decode cX10_surety 9 = .ok (.ifCond .eq 27, 3) := by decide +kernel
theorem dX10_surety_12 : decode cX10_surety 12 = .ok (.iload_n 2, 1) := by decide +kernel
theorem dX10_surety_13 : decode cX10_surety 13 = .ok (.i2l, 1) := by decide +kernel
theorem dX10_surety_14 : decode cX10_surety 14 = .ok (.lconst 0, 1) := by decide +kernel
theorem dX10_surety_15 : decode cX10_surety 15 = .ok (.ldc2_w 222, 3) := by decide +kernel
theorem dX10_surety_18 : decode cX10_surety 18 = .ok (.invokestatic 71, 3) := by decide +kernel
theorem dX10_surety_21 : decode cX10_surety 21 = .ok (.ifCond .eq 15, 3) := by decide +kernel
theorem dX10_surety_24 : decode cX10_surety 24 = .ok (.iload_n 3, 1) := by decide +kernel
theorem dX10_surety_25 : decode cX10_surety 25 = .ok (.i2l, 1) := by decide +kernel
theorem dX10_surety_26 : decode cX10_surety 26 = .ok (.lconst 0, 1) := by decide +kernel
theorem dX10_surety_27 : decode cX10_surety 27 = .ok (.ldc2_w 224, 3) := by decide +kernel
theorem dX10_surety_30 : decode cX10_surety 30 = .ok (.invokestatic 71, 3) := by decide +kernel
theorem dX10_surety_33 : decode cX10_surety 33 = .ok (.ifCond .ne 10, 3) := by decide +kernel
theorem dX10_surety_36 : decode cX10_surety 36 = .ok (.aload_n 0, 1) := by decide +kernel
theorem dX10_surety_37 : decode cX10_surety 37 = .ok (.ldc 68, 2) := by decide +kernel
theorem dX10_surety_39 : decode cX10_surety 39 = .ok (.invokevirtual 86, 3) := by decide +kernel
theorem dX10_surety_42 : decode cX10_surety 42 = .ok (.ireturn, 1) := by decide +kernel
theorem dX10_surety_43 : decode cX10_surety 43 = .ok (.aload_n 0, 1) := by decide +kernel
theorem dX10_surety_44 : decode cX10_surety 44 = .ok (.iload_n 1, 1) := by decide +kernel
theorem dX10_surety_45 : decode cX10_surety 45 = .ok (.invokevirtual 226, 3) := by decide +kernel
theorem dX10_surety_48 : decode cX10_surety 48 = .ok (.ifCond .le 10, 3) := by decide +kernel
theorem dX10_surety_51 : decode cX10_surety 51 = .ok (.aload_n 0, 1) := by decide +kernel
theorem dX10_surety_52 : decode cX10_surety 52 = .ok (.ldc 153, 2) := by decide +kernel
theorem dX10_surety_54 : decode cX10_surety 54 = .ok (.invokevirtual 86, 3) := by decide +kernel
theorem dX10_surety_57 : decode cX10_surety 57 = .ok (.ireturn, 1) := by decide +kernel
theorem dX10_surety_58 : decode cX10_surety 58 = .ok (.aload_n 0, 1) := by decide +kernel
theorem dX10_surety_59 : decode cX10_surety 59 = .ok (.getfield 7, 3) := by decide +kernel
theorem dX10_surety_62 : decode cX10_surety 62 = .ok (.sipush 285, 3) := by decide +kernel
theorem dX10_surety_65 : decode cX10_surety 65 = .ok (.iload_n 1, 1) := by decide +kernel
theorem dX10_surety_66 : decode cX10_surety 66 = .ok (.iadd, 1) := by decide +kernel
theorem dX10_surety_67 : decode cX10_surety 67 = .ok (.iload_n 2, 1) := by decide +kernel
theorem dX10_surety_68 : decode cX10_surety 68 = .ok (.iastore, 1) := by decide +kernel
theorem dX10_surety_69 : decode cX10_surety 69 = .ok (.aload_n 0, 1) := by decide +kernel
theorem dX10_surety_70 : decode cX10_surety 70 = .ok (.getfield 7, 3) := by decide +kernel
theorem dX10_surety_73 : decode cX10_surety 73 = .ok (.sipush 290, 3) := by decide +kernel
theorem dX10_surety_76 : decode cX10_surety 76 = .ok (.iload_n 1, 1) := by decide +kernel
theorem dX10_surety_77 : decode cX10_surety 77 = .ok (.iadd, 1) := by decide +kernel
theorem dX10_surety_78 : decode cX10_surety 78 = .ok (.iload_n 3, 1) := by decide +kernel
theorem dX10_surety_79 : decode cX10_surety 79 = .ok (.iastore, 1) := by decide +kernel
theorem dX10_surety_80 : decode cX10_surety 80 = .ok (.iconst 1, 1) := by decide +kernel
theorem dX10_surety_81 : decode cX10_surety 81 = .ok (.ireturn, 1) := by decide +kernel
theorem dX10_bail_0 : decode cX10_bail 0 = .ok (.iload_n 1, 1) := by decide +kernel
theorem dX10_bail_1 : decode cX10_bail 1 = .ok (.invokestatic 98, 3) := by decide +kernel
theorem dX10_bail_4 : decode cX10_bail 4 = .ok (.ifCond .eq 15, 3) := by decide +kernel
theorem dX10_bail_7 : decode cX10_bail 7 = .ok (.iload_n 2, 1) := by decide +kernel
theorem dX10_bail_8 : decode cX10_bail 8 = .ok (.i2l, 1) := by decide +kernel
theorem dX10_bail_9 : decode cX10_bail 9 = .ok (.lconst 0, 1) := by decide +kernel
theorem dX10_bail_10 : decode cX10_bail 10 = .ok (.ldc2_w 222, 3) := by decide +kernel
theorem dX10_bail_13 : decode cX10_bail 13 = .ok (.invokestatic 71, 3) := by decide +kernel
theorem dX10_bail_16 : decode cX10_bail 16 = .ok (.ifCond .ne 10, 3) := by decide +kernel
theorem dX10_bail_19 : decode cX10_bail 19 = .ok (.aload_n 0, 1) := by decide +kernel
theorem dX10_bail_20 : decode cX10_bail 20 = .ok (.ldc 68, 2) := by decide +kernel
theorem dX10_bail_22 : decode cX10_bail 22 = .ok (.invokevirtual 86, 3) := by decide +kernel
theorem dX10_bail_25 : decode cX10_bail 25 = .ok (.ireturn, 1) := by decide +kernel
theorem dX10_bail_26 : decode cX10_bail 26 = .ok (.aload_n 0, 1) := by decide +kernel
theorem dX10_bail_27 : decode cX10_bail 27 = .ok (.iload_n 1, 1) := by decide +kernel
theorem dX10_bail_28 : decode cX10_bail 28 = .ok (.invokevirtual 229, 3) := by decide +kernel
theorem dX10_bail_31 : decode cX10_bail 31 = .ok (.ifCond .le 10, 3) := by decide +kernel
theorem dX10_bail_34 : decode cX10_bail 34 = .ok (.aload_n 0, 1) := by decide +kernel
theorem dX10_bail_35 : decode cX10_bail 35 = .ok (.ldc 153, 2) := by decide +kernel
theorem dX10_bail_37 : decode cX10_bail 37 = .ok (.invokevirtual 86, 3) := by decide +kernel
theorem dX10_bail_40 : decode cX10_bail 40 = .ok (.ireturn, 1) := by decide +kernel
theorem dX10_bail_41 : decode cX10_bail 41 = .ok (.aload_n 0, 1) := by decide +kernel
theorem dX10_bail_42 : decode cX10_bail 42 = .ok (.getfield 7, 3) := by decide +kernel
theorem dX10_bail_45 : decode cX10_bail 45 = .ok (.sipush 325, 3) := by decide +kernel
theorem dX10_bail_48 : decode cX10_bail 48 = .ok (.iload_n 1, 1) := by decide +kernel
theorem dX10_bail_49 : decode cX10_bail 49 = .ok (.iadd, 1) := by decide +kernel
theorem dX10_bail_50 : decode cX10_bail 50 = .ok (.iaload, 1) := by decide +kernel
theorem dX10_bail_51 : decode cX10_bail 51 = .ok (.istore_n 3, 1) := by decide +kernel
theorem dX10_bail_52 : decode cX10_bail 52 = .ok (.aload_n 0, 1) := by decide +kernel
theorem dX10_bail_53 : decode cX10_bail 53 = .ok (.getfield 7, 3) := by decide +kernel
theorem dX10_bail_56 : decode cX10_bail 56 = .ok (.sipush 325, 3) := by decide +kernel
theorem dX10_bail_59 : decode cX10_bail 59 = .ok (.iload_n 1, 1) := by decide +kernel
theorem dX10_bail_60 : decode cX10_bail 60 = .ok (.iadd, 1) := by decide +kernel
theorem dX10_bail_61 : decode cX10_bail 61 = .ok (.iload_n 2, 1) := by decide +kernel
theorem dX10_bail_62 : decode cX10_bail 62 = .ok (.iastore, 1) := by decide +kernel
theorem dX10_bail_63 : decode cX10_bail 63 = .ok (.iload_n 3, 1) := by decide +kernel
theorem dX10_bail_64 : decode cX10_bail 64 = .ok (.ireturn, 1) := by decide +kernel
theorem dX10_call_0 : decode cX10_call 0 = .ok (.iload_n 1, 1) := by decide +kernel
theorem dX10_call_1 : decode cX10_call 1 = .ok (.invokestatic 98, 3) := by decide +kernel
theorem dX10_call_4 : decode cX10_call 4 = .ok (.ifCond .ne 10, 3) := by decide +kernel
theorem dX10_call_7 : decode cX10_call 7 = .ok (.aload_n 0, 1) := by decide +kernel
theorem dX10_call_8 : decode cX10_call 8 = .ok (.ldc 68, 2) := by decide +kernel
theorem dX10_call_10 : decode cX10_call 10 = .ok (.invokevirtual 86, 3) := by decide +kernel
theorem dX10_call_13 : decode cX10_call 13 = .ok (.ireturn, 1) := by decide +kernel
theorem dX10_call_14 : decode cX10_call 14 = .ok (.aload_n 0, 1) := by decide +kernel
theorem dX10_call_15 : decode cX10_call 15 = .ok (.iload_n 1, 1) := by decide +kernel
theorem dX10_call_16 : decode cX10_call 16 = .ok (.invokevirtual 229, 3) := by decide +kernel
theorem dX10_call_19 : decode cX10_call 19 = .ok (.ifCond .le 10, 3) := by decide +kernel
theorem dX10_call_22 : decode cX10_call 22 = .ok (.aload_n 0, 1) := by decide +kernel
theorem dX10_call_23 : decode cX10_call 23 = .ok (.ldc 153, 2) := by decide +kernel
theorem dX10_call_25 : decode cX10_call 25 = .ok (.invokevirtual 86, 3) := by decide +kernel
theorem dX10_call_28 : decode cX10_call 28 = .ok (.ireturn, 1) := by decide +kernel
theorem dX10_call_29 : decode cX10_call 29 = .ok (.aload_n 0, 1) := by decide +kernel
theorem dX10_call_30 : decode cX10_call 30 = .ok (.getfield 7, 3) := by decide +kernel
theorem dX10_call_33 : decode cX10_call 33 = .ok (.sipush 325, 3) := by decide +kernel
theorem dX10_call_36 : decode cX10_call 36 = .ok (.iload_n 1, 1) := by decide +kernel
theorem dX10_call_37 : decode cX10_call 37 = .ok (.iadd, 1) := by decide +kernel
theorem dX10_call_38 : decode cX10_call 38 = .ok (.iaload, 1) := by decide +kernel
theorem dX10_call_39 : decode cX10_call 39 = .ok (.istore_n 2, 1) := by decide +kernel
theorem dX10_call_40 : decode cX10_call 40 = .ok (.iconst 0, 1) := by decide +kernel
theorem dX10_call_41 : decode cX10_call 41 = .ok (.istore_n 3, 1) := by decide +kernel
theorem dX10_call_42 : decode cX10_call 42 = .ok (.iload_n 3, 1) := by decide +kernel
theorem dX10_call_43 : decode cX10_call 43 = .ok (.iconst 5, 1) := by decide +kernel
theorem dX10_call_44 : decode cX10_call 44 = .ok (.if_icmp .ge 93, 3) := by decide +kernel
theorem dX10_call_47 : decode cX10_call 47 = .ok (.aload_n 0, 1) := by decide +kernel
theorem dX10_call_48 : decode cX10_call 48 = .ok (.getfield 7, 3) := by decide +kernel
theorem dX10_call_51 : decode cX10_call 51 = .ok (.sipush 290, 3) := by decide +kernel
theorem dX10_call_54 : decode cX10_call 54 = .ok (.iload_n 3, 1) := by decide +kernel
theorem dX10_call_55 : decode cX10_call 55 = .ok (.iadd, 1) := by decide +kernel
theorem dX10_call_56 : decode cX10_call 56 = .ok (.iaload, 1) := by decide +kernel
theorem dX10_call_57 : decode cX10_call 57 = .ok (.iload_n 1, 1) := by decide +kernel
theorem dX10_call_58 : decode cX10_call 58 = .ok (.invokestatic 90, 3) := by decide +kernel
theorem dX10_call_61 : decode cX10_call 61 = .ok (.ifCond .eq 70, 3) := by decide +kernel
theorem dX10_call_64 : decode cX10_call 64 = .ok (.iload_n 2, 1) := by decide +kernel
theorem dX10_call_65 : decode cX10_call 65 = .ok (.aload_n 0, 1) := by decide +kernel
theorem dX10_call_66 : decode cX10_call 66 = .ok (.getfield 7, 3) := by decide +kernel
theorem dX10_call_69 : decode cX10_call 69 = .ok (.sipush 285, 3) := by decide +kernel
theorem dX10_call_72 : decode cX10_call 72 = .ok (.iload_n 3, 1) := by decide +kernel
theorem dX10_call_73 : decode cX10_call 73 = .ok (.iadd, 1) := by decide +kernel
theorem dX10_call_74 : decode cX10_call 74 = .ok (.iaload, 1) := by decide +kernel
theorem dX10_call_75 : decode cX10_call 75 = .ok (.if_icmp .ge 7, 3) := by decide +kernel
theorem dX10_call_78 : decode cX10_call 78 = .ok (.iload_n 2, 1) := by decide +kernel
theorem dX10_call_79 : decode cX10_call 79 = .ok (.goto 13, 3) := by decide +kernel
theorem dX10_call_82 : decode cX10_call 82 = .ok (.aload_n 0, 1) := by decide +kernel
theorem dX10_call_83 : decode cX10_call 83 = .ok (.getfield 7, 3) := by decide +kernel
theorem dX10_call_86 : decode cX10_call 86 = .ok (.sipush 285, 3) := by decide +kernel
theorem dX10_call_89 : decode cX10_call 89 = .ok (.iload_n 3, 1) := by decide +kernel
theorem dX10_call_90 : decode cX10_call 90 = .ok (.iadd, 1) := by decide +kernel
theorem dX10_call_91 : decode cX10_call 91 = .ok (.iaload, 1) := by decide +kernel
theorem dX10_call_92 : decode cX10_call 92 = .ok (.istore 4, 2) := by decide +kernel
theorem dX10_call_94 : decode cX10_call 94 = .ok (.aload_n 0, 1) := by decide +kernel
theorem dX10_call_95 : decode cX10_call 95 = .ok (.getfield 7, 3) := by decide +kernel
theorem dX10_call_98 : decode cX10_call 98 = .ok (.sipush 295, 3) := by decide +kernel
theorem dX10_call_101 : decode cX10_call 101 = .ok (.bipush 6, 2) := by decide +kernel
theorem dX10_call_103 : decode cX10_call 103 = .ok (.iload_n 3, 1) := by decide +kernel
theorem dX10_call_104 : decode cX10_call 104 = .ok (.imul, 1) := by decide +kernel
theorem dX10_call_105 : decode cX10_call 105 = .ok (.iadd, 1) := by decide +kernel
theorem dX10_call_106 : decode cX10_call 106 = .ok (.iload_n 1, 1) := by decide +kernel
theorem dX10_call_107 : decode cX10_call 107 = .ok (.iadd, 1) := by decide +kernel
theorem dX10_call_108 : decode cX10_call 108 = .ok (.iload 4, 2) := by decide +kernel
theorem dX10_call_110 : decode cX10_call 110 = .ok (.iastore, 1) := by decide +kernel
theorem dX10_call_111 : decode cX10_call 111 = .ok (.aload_n 0, 1) := by decide +kernel
theorem dX10_call_112 : decode cX10_call 112 = .ok (.getfield 7, 3) := by decide +kernel
theorem dX10_call_115 : decode cX10_call 115 = .ok (.sipush 285, 3) := by decide +kernel
theorem dX10_call_118 : decode cX10_call 118 = .ok (.iload_n 3, 1) := by decide +kernel
theorem dX10_call_119 : decode cX10_call 119 = .ok (.iadd, 1) := by decide +kernel
theorem dX10_call_120 : decode cX10_call 120 = .ok (.dup2, 1) := by decide +kernel
theorem dX10_call_121 : decode cX10_call 121 = .ok (.iaload, 1) := by decide +kernel
theorem dX10_call_122 : decode cX10_call 122 = .ok (.iload 4, 2) := by decide +kernel
theorem dX10_call_124 : decode cX10_call 124 = .ok (.isub, 1) := by decide +kernel
theorem dX10_call_125 : decode cX10_call 125 = .ok (.iastore, 1) := by decide +kernel
theorem dX10_call_126 : decode cX10_call 126 = .ok (.iload_n 2, 1) := by decide +kernel
theorem dX10_call_127 : decode cX10_call 127 = .ok (.iload 4, 2) := by decide +kernel
theorem dX10_call_129 : decode cX10_call 129 = .ok (.isub, 1) := by decide +kernel
theorem dX10_call_130 : decode cX10_call 130 = .ok (.istore_n 2, 1) := by decide +kernel
theorem dX10_call_131 : decode cX10_call 131 = .ok (.iinc 3 1, 3) := by decide +kernel
theorem dX10_call_134 : decode cX10_call 134 = .ok (.goto (-92), 3) := by decide +kernel
theorem dX10_call_137 : decode cX10_call 137 = .ok (.iload_n 2, 1) := by decide +kernel
theorem dX10_call_138 : decode cX10_call 138 = .ok (.ireturn, 1) := by decide +kernel
theorem dX10_back_0 : decode cX10_back 0 = .ok (.iload_n 1, 1) := by decide +kernel
theorem dX10_back_1 : decode cX10_back 1 = .ok (.invokestatic 98, 3) := by decide +kernel
theorem dX10_back_4 : decode cX10_back 4 = .ok (.ifCond .ne 10, 3) := by decide +kernel
theorem dX10_back_7 : decode cX10_back 7 = .ok (.aload_n 0, 1) := by decide +kernel
theorem dX10_back_8 : decode cX10_back 8 = .ok (.ldc 68, 2) := by decide +kernel
theorem dX10_back_10 : decode cX10_back 10 = .ok (.invokevirtual 86, 3) := by decide +kernel
theorem dX10_back_13 : decode cX10_back 13 = .ok (.ireturn, 1) := by decide +kernel
theorem dX10_back_14 : decode cX10_back 14 = .ok (.aload_n 0, 1) := by decide +kernel
theorem dX10_back_15 : decode cX10_back 15 = .ok (.iload_n 1, 1) := by decide +kernel
theorem dX10_back_16 : decode cX10_back 16 = .ok (.invokevirtual 229, 3) := by decide +kernel
theorem dX10_back_19 : decode cX10_back 19 = .ok (.istore_n 2, 1) := by decide +kernel
theorem dX10_back_20 : decode cX10_back 20 = .ok (.iconst 0, 1) := by decide +kernel
theorem dX10_back_21 : decode cX10_back 21 = .ok (.istore_n 3, 1) := by decide +kernel
theorem dX10_back_22 : decode cX10_back 22 = .ok (.iload_n 3, 1) := by decide +kernel
theorem dX10_back_23 : decode cX10_back 23 = .ok (.iconst 5, 1) := by decide +kernel
theorem dX10_back_24 : decode cX10_back 24 = .ok (.if_icmp .ge 44, 3) := by decide +kernel
theorem dX10_back_27 : decode cX10_back 27 = .ok (.aload_n 0, 1) := by decide +kernel
theorem dX10_back_28 : decode cX10_back 28 = .ok (.getfield 7, 3) := by decide +kernel
theorem dX10_back_31 : decode cX10_back 31 = .ok (.sipush 285, 3) := by decide +kernel
theorem dX10_back_34 : decode cX10_back 34 = .ok (.iload_n 3, 1) := by decide +kernel
theorem dX10_back_35 : decode cX10_back 35 = .ok (.iadd, 1) := by decide +kernel
theorem dX10_back_36 : decode cX10_back 36 = .ok (.dup2, 1) := by decide +kernel
theorem dX10_back_37 : decode cX10_back 37 = .ok (.iaload, 1) := by decide +kernel
theorem dX10_back_38 : decode cX10_back 38 = .ok (.aload_n 0, 1) := by decide +kernel
theorem dX10_back_39 : decode cX10_back 39 = .ok (.iload_n 3, 1) := by decide +kernel
theorem dX10_back_40 : decode cX10_back 40 = .ok (.iload_n 1, 1) := by decide +kernel
theorem dX10_back_41 : decode cX10_back 41 = .ok (.invokevirtual 219, 3) := by decide +kernel
theorem dX10_back_44 : decode cX10_back 44 = .ok (.iadd, 1) := by decide +kernel
theorem dX10_back_45 : decode cX10_back 45 = .ok (.iastore, 1) := by decide +kernel
theorem dX10_back_46 : decode cX10_back 46 = .ok (.aload_n 0, 1) := by decide +kernel
theorem dX10_back_47 : decode cX10_back 47 = .ok (.getfield 7, 3) := by decide +kernel
theorem dX10_back_50 : decode cX10_back 50 = .ok (.sipush 295, 3) := by decide +kernel
theorem dX10_back_53 : decode cX10_back 53 = .ok (.bipush 6, 2) := by decide +kernel
theorem dX10_back_55 : decode cX10_back 55 = .ok (.iload_n 3, 1) := by decide +kernel
theorem dX10_back_56 : decode cX10_back 56 = .ok (.imul, 1) := by decide +kernel
theorem dX10_back_57 : decode cX10_back 57 = .ok (.iadd, 1) := by decide +kernel
theorem dX10_back_58 : decode cX10_back 58 = .ok (.iload_n 1, 1) := by decide +kernel
theorem dX10_back_59 : decode cX10_back 59 = .ok (.iadd, 1) := by decide +kernel
theorem dX10_back_60 : decode cX10_back 60 = .ok (.iconst 0, 1) := by decide +kernel
theorem dX10_back_61 : decode cX10_back 61 = .ok (.iastore, 1) := by decide +kernel
theorem dX10_back_62 : decode cX10_back 62 = .ok (.iinc 3 1, 3) := by decide +kernel
theorem dX10_back_65 : decode cX10_back 65 = .ok (.goto (-43), 3) := by decide +kernel
theorem dX10_back_68 : decode cX10_back 68 = .ok (.iload_n 2, 1) := by decide +kernel
theorem dX10_back_69 : decode cX10_back 69 = .ok (.ireturn, 1) := by decide +kernel
theorem dX10_suretyOf_0 : decode cX10_suretyOf 0 = .ok (.iload_n 1, 1) := by decide +kernel
theorem dX10_suretyOf_1 : decode cX10_suretyOf 1 = .ok (.i2l, 1) := by decide +kernel
theorem dX10_suretyOf_2 : decode cX10_suretyOf 2 = .ok (.lconst 0, 1) := by decide +kernel
theorem dX10_suretyOf_3 : decode cX10_suretyOf 3 = .ok (.ldc2_w 109, 3) := by decide +kernel
theorem dX10_suretyOf_6 : decode cX10_suretyOf 6 = .ok (.invokestatic 71, 3) := by decide +kernel
theorem dX10_suretyOf_9 : decode cX10_suretyOf 9 = .ok (.ifCond .eq 15, 3) := by decide +kernel
theorem dX10_suretyOf_12 : decode cX10_suretyOf 12 = .ok (.iload_n 2, 1) := by decide +kernel
theorem dX10_suretyOf_13 : decode cX10_suretyOf 13 = .ok (.i2l, 1) := by decide +kernel
theorem dX10_suretyOf_14 : decode cX10_suretyOf 14 = .ok (.lconst 0, 1) := by decide +kernel
theorem dX10_suretyOf_15 : decode cX10_suretyOf 15 = .ok (.ldc2_w 75, 3) := by decide +kernel
theorem dX10_suretyOf_18 : decode cX10_suretyOf 18 = .ok (.invokestatic 71, 3) := by decide +kernel
theorem dX10_suretyOf_21 : decode cX10_suretyOf 21 = .ok (.ifCond .ne 10, 3) := by decide +kernel
theorem dX10_suretyOf_24 : decode cX10_suretyOf 24 = .ok (.aload_n 0, 1) := by decide +kernel
theorem dX10_suretyOf_25 : decode cX10_suretyOf 25 = .ok (.ldc 68, 2) := by decide +kernel
theorem dX10_suretyOf_27 : decode cX10_suretyOf 27 = .ok (.invokevirtual 86, 3) := by decide +kernel
theorem dX10_suretyOf_30 : decode cX10_suretyOf 30 = .ok (.ireturn, 1) := by decide +kernel
theorem dX10_suretyOf_31 : decode cX10_suretyOf 31 = .ok (.iload_n 2, 1) := by decide +kernel
theorem dX10_suretyOf_32 : decode cX10_suretyOf 32 = .ok (.ifCond .ne 16, 3) := by decide +kernel
theorem dX10_suretyOf_35 : decode cX10_suretyOf 35 = .ok (.aload_n 0, 1) := by decide +kernel
theorem dX10_suretyOf_36 : decode cX10_suretyOf 36 = .ok (.getfield 7, 3) := by decide +kernel
theorem dX10_suretyOf_39 : decode cX10_suretyOf 39 = .ok (.sipush 285, 3) := by decide +kernel
theorem dX10_suretyOf_42 : decode cX10_suretyOf 42 = .ok (.iload_n 1, 1) := by decide +kernel
theorem dX10_suretyOf_43 : decode cX10_suretyOf 43 = .ok (.iadd, 1) := by decide +kernel
theorem dX10_suretyOf_44 : decode cX10_suretyOf 44 = .ok (.iaload, 1) := by decide +kernel
theorem dX10_suretyOf_45 : decode cX10_suretyOf 45 = .ok (.goto 29, 3) := by decide +kernel
theorem dX10_suretyOf_48 : decode cX10_suretyOf 48 = .ok (.iload_n 2, 1) := by decide +kernel
theorem dX10_suretyOf_49 : decode cX10_suretyOf 49 = .ok (.iconst 1, 1) := by decide +kernel
theorem dX10_suretyOf_50 : decode cX10_suretyOf 50 = .ok (.if_icmp .ne 16, 3) := by decide +kernel
theorem dX10_suretyOf_53 : decode cX10_suretyOf 53 = .ok (.aload_n 0, 1) := by decide +kernel
theorem dX10_suretyOf_54 : decode cX10_suretyOf 54 = .ok (.getfield 7, 3) := by decide +kernel
theorem dX10_suretyOf_57 : decode cX10_suretyOf 57 = .ok (.sipush 290, 3) := by decide +kernel
theorem dX10_suretyOf_60 : decode cX10_suretyOf 60 = .ok (.iload_n 1, 1) := by decide +kernel
theorem dX10_suretyOf_61 : decode cX10_suretyOf 61 = .ok (.iadd, 1) := by decide +kernel
theorem dX10_suretyOf_62 : decode cX10_suretyOf 62 = .ok (.iaload, 1) := by decide +kernel
theorem dX10_suretyOf_63 : decode cX10_suretyOf 63 = .ok (.goto 11, 3) := by decide +kernel
theorem dX10_suretyOf_66 : decode cX10_suretyOf 66 = .ok (.aload_n 0, 1) := by decide +kernel
theorem dX10_suretyOf_67 : decode cX10_suretyOf 67 = .ok (.iload_n 1, 1) := by decide +kernel
theorem dX10_suretyOf_68 : decode cX10_suretyOf 68 = .ok (.iload_n 2, 1) := by decide +kernel
theorem dX10_suretyOf_69 : decode cX10_suretyOf 69 = .ok (.iconst 2, 1) := by decide +kernel
theorem dX10_suretyOf_70 : decode cX10_suretyOf 70 = .ok (.isub, 1) := by decide +kernel
theorem dX10_suretyOf_71 : decode cX10_suretyOf 71 = .ok (.invokevirtual 219, 3) := by decide +kernel
theorem dX10_suretyOf_74 : decode cX10_suretyOf 74 = .ok (.ireturn, 1) := by decide +kernel
theorem dX10_hearingsOn_0 : decode cX10_hearingsOn 0 = .ok (.iconst 0, 1) := by decide +kernel
theorem dX10_hearingsOn_1 : decode cX10_hearingsOn 1 = .ok (.istore_n 3, 1) := by decide +kernel
theorem dX10_hearingsOn_2 : decode cX10_hearingsOn 2 = .ok (.iconst 0, 1) := by decide +kernel
theorem dX10_hearingsOn_3 : decode cX10_hearingsOn 3 = .ok (.istore 4, 2) := by decide +kernel
theorem dX10_hearingsOn_5 : decode cX10_hearingsOn 5 = .ok (.iload 4, 2) := by decide +kernel
theorem dX10_hearingsOn_7 : decode cX10_hearingsOn 7 = .ok (.bipush 6, 2) := by decide +kernel
theorem dX10_hearingsOn_9 : decode cX10_hearingsOn 9 = .ok (.if_icmp .ge 38, 3) := by decide +kernel
theorem dX10_hearingsOn_12 : decode cX10_hearingsOn 12 = .ok (.iload_n 3, 1) := by decide +kernel
theorem dX10_hearingsOn_13 : decode cX10_hearingsOn 13 = .ok (.iload 4, 2) := by decide +kernel
theorem dX10_hearingsOn_15 : decode cX10_hearingsOn 15 = .ok (.iload_n 2, 1) := by decide +kernel
theorem dX10_hearingsOn_16 : decode cX10_hearingsOn 16 = .ok (.if_icmp .eq 22, 3) := by decide +kernel
theorem dX10_hearingsOn_19 : decode cX10_hearingsOn 19 = .ok (.aload_n 0, 1) := by decide +kernel
theorem dX10_hearingsOn_20 : decode cX10_hearingsOn 20 = .ok (.getfield 7, 3) := by decide +kernel
theorem dX10_hearingsOn_23 : decode cX10_hearingsOn 23 = .ok (.sipush 331, 3) := by decide +kernel
theorem dX10_hearingsOn_26 : decode cX10_hearingsOn 26 = .ok (.iload 4, 2) := by decide +kernel
theorem dX10_hearingsOn_28 : decode cX10_hearingsOn 28 = .ok (.iadd, 1) := by decide +kernel
theorem dX10_hearingsOn_29 : decode cX10_hearingsOn 29 = .ok (.iaload, 1) := by decide +kernel
theorem dX10_hearingsOn_30 : decode cX10_hearingsOn 30 = .ok (.iload_n 1, 1) := by decide +kernel
theorem dX10_hearingsOn_31 : decode cX10_hearingsOn 31 = .ok (.if_icmp .ne 7, 3) := by decide +kernel
theorem dX10_hearingsOn_34 : decode cX10_hearingsOn 34 = .ok (.iconst 1, 1) := by decide +kernel
theorem dX10_hearingsOn_35 : decode cX10_hearingsOn 35 = .ok (.goto 4, 3) := by decide +kernel
theorem dX10_hearingsOn_38 : decode cX10_hearingsOn 38 = .ok (.iconst 0, 1) := by decide +kernel
theorem dX10_hearingsOn_39 : decode cX10_hearingsOn 39 = .ok (.iadd, 1) := by decide +kernel
theorem dX10_hearingsOn_40 : decode cX10_hearingsOn 40 = .ok (.istore_n 3, 1) := by decide +kernel
theorem dX10_hearingsOn_41 : decode cX10_hearingsOn 41 = .ok (.iinc 4 1, 3) := by decide +kernel
theorem dX10_hearingsOn_44 : decode cX10_hearingsOn 44 = .ok (.goto (-39), 3) := by decide +kernel
theorem dX10_hearingsOn_47 : decode cX10_hearingsOn 47 = .ok (.iload_n 3, 1) := by decide +kernel
theorem dX10_hearingsOn_48 : decode cX10_hearingsOn 48 = .ok (.ireturn, 1) := by decide +kernel
theorem dX10_hearing_0 : decode cX10_hearing 0 = .ok (.iload_n 1, 1) := by decide +kernel
theorem dX10_hearing_1 : decode cX10_hearing 1 = .ok (.invokestatic 98, 3) := by decide +kernel
theorem dX10_hearing_4 : decode cX10_hearing 4 = .ok (.ifCond .eq 10, 3) := by decide +kernel
theorem dX10_hearing_7 : decode cX10_hearing 7 = .ok (.iload_n 2, 1) := by decide +kernel
theorem dX10_hearing_8 : decode cX10_hearing 8 = .ok (.invokestatic 122, 3) := by decide +kernel
theorem dX10_hearing_11 : decode cX10_hearing 11 = .ok (.ifCond .ne 10, 3) := by decide +kernel
theorem dX10_hearing_14 : decode cX10_hearing 14 = .ok (.aload_n 0, 1) := by decide +kernel
theorem dX10_hearing_15 : decode cX10_hearing 15 = .ok (.ldc 68, 2) := by decide +kernel
theorem dX10_hearing_17 : decode cX10_hearing 17 = .ok (.invokevirtual 86, 3) := by decide +kernel
theorem dX10_hearing_20 : decode cX10_hearing 20 = .ok (.ireturn, 1) := by decide +kernel
theorem dX10_hearing_21 : decode cX10_hearing 21 = .ok (.aload_n 0, 1) := by decide +kernel
theorem dX10_hearing_22 : decode cX10_hearing 22 = .ok (.iload_n 2, 1) := by decide +kernel
theorem dX10_hearing_23 : decode cX10_hearing 23 = .ok (.iload_n 1, 1) := by decide +kernel
theorem dX10_hearing_24 : decode cX10_hearing 24 = .ok (.invokevirtual 232, 3) := by decide +kernel
theorem dX10_hearing_27 : decode cX10_hearing 27 = .ok (.iconst 2, 1) := by decide +kernel
theorem dX10_hearing_28 : decode cX10_hearing 28 = .ok (.if_icmp .ne 10, 3) := by decide +kernel
theorem dX10_hearing_31 : decode cX10_hearing 31 = .ok (.aload_n 0, 1) := by decide +kernel
theorem dX10_hearing_32 : decode cX10_hearing 32 = .ok (.ldc 104, 2) := by decide +kernel
theorem dX10_hearing_34 : decode cX10_hearing 34 = .ok (.invokevirtual 86, 3) := by decide +kernel
theorem dX10_hearing_37 : decode cX10_hearing 37 = .ok (.ireturn, 1) := by decide +kernel
theorem dX10_hearing_38 : decode cX10_hearing 38 = .ok (.aload_n 0, 1) := by decide +kernel
theorem dX10_hearing_39 : decode cX10_hearing 39 = .ok (.getfield 7, 3) := by decide +kernel
theorem dX10_hearing_42 : decode cX10_hearing 42 = .ok (.sipush 331, 3) := by decide +kernel
theorem dX10_hearing_45 : decode cX10_hearing 45 = .ok (.iload_n 1, 1) := by decide +kernel
theorem dX10_hearing_46 : decode cX10_hearing 46 = .ok (.iadd, 1) := by decide +kernel
theorem dX10_hearing_47 : decode cX10_hearing 47 = .ok (.iload_n 2, 1) := by decide +kernel
theorem dX10_hearing_48 : decode cX10_hearing 48 = .ok (.iastore, 1) := by decide +kernel
theorem dX10_hearing_49 : decode cX10_hearing 49 = .ok (.aload_n 0, 1) := by decide +kernel
theorem dX10_hearing_50 : decode cX10_hearing 50 = .ok (.iload_n 2, 1) := by decide +kernel
theorem dX10_hearing_51 : decode cX10_hearing 51 = .ok (.iconst (-1), 1) := by decide +kernel
theorem dX10_hearing_52 : decode cX10_hearing 52 = .ok (.invokevirtual 232, 3) := by decide +kernel
theorem dX10_hearing_55 : decode cX10_hearing 55 = .ok (.ireturn, 1) := by decide +kernel
theorem dX10_heard_0 : decode cX10_heard 0 = .ok (.iload_n 1, 1) := by decide +kernel
theorem dX10_heard_1 : decode cX10_heard 1 = .ok (.invokestatic 98, 3) := by decide +kernel
theorem dX10_heard_4 : decode cX10_heard 4 = .ok (.ifCond .ne 10, 3) := by decide +kernel
theorem dX10_heard_7 : decode cX10_heard 7 = .ok (.aload_n 0, 1) := by decide +kernel
theorem dX10_heard_8 : decode cX10_heard 8 = .ok (.ldc 68, 2) := by decide +kernel
theorem dX10_heard_10 : decode cX10_heard 10 = .ok (.invokevirtual 86, 3) := by decide +kernel
theorem dX10_heard_13 : decode cX10_heard 13 = .ok (.ireturn, 1) := by decide +kernel
theorem dX10_heard_14 : decode cX10_heard 14 = .ok (.aload_n 0, 1) := by decide +kernel
theorem dX10_heard_15 : decode cX10_heard 15 = .ok (.getfield 7, 3) := by decide +kernel
theorem dX10_heard_18 : decode cX10_heard 18 = .ok (.sipush 331, 3) := by decide +kernel
theorem dX10_heard_21 : decode cX10_heard 21 = .ok (.iload_n 1, 1) := by decide +kernel
theorem dX10_heard_22 : decode cX10_heard 22 = .ok (.iadd, 1) := by decide +kernel
theorem dX10_heard_23 : decode cX10_heard 23 = .ok (.iaload, 1) := by decide +kernel
theorem dX10_heard_24 : decode cX10_heard 24 = .ok (.ifCond .ge 12, 3) := by decide +kernel
theorem dX10_heard_27 : decode cX10_heard 27 = .ok (.aload_n 0, 1) := by decide +kernel
theorem dX10_heard_28 : decode cX10_heard 28 = .ok (.ldc 97, 2) := by decide +kernel
theorem dX10_heard_30 : decode cX10_heard 30 = .ok (.invokevirtual 86, 3) := by decide +kernel
theorem dX10_heard_33 : decode cX10_heard 33 = .ok (.goto 13, 3) := by decide +kernel
theorem dX10_heard_36 : decode cX10_heard 36 = .ok (.aload_n 0, 1) := by decide +kernel
theorem dX10_heard_37 : decode cX10_heard 37 = .ok (.getfield 7, 3) := by decide +kernel
theorem dX10_heard_40 : decode cX10_heard 40 = .ok (.sipush 331, 3) := by decide +kernel
theorem dX10_heard_43 : decode cX10_heard 43 = .ok (.iload_n 1, 1) := by decide +kernel
theorem dX10_heard_44 : decode cX10_heard 44 = .ok (.iadd, 1) := by decide +kernel
theorem dX10_heard_45 : decode cX10_heard 45 = .ok (.iaload, 1) := by decide +kernel
theorem dX10_heard_46 : decode cX10_heard 46 = .ok (.ireturn, 1) := by decide +kernel
theorem dX10_seed_0 : decode cX10_seed 0 = .ok (.aload_n 0, 1) := by decide +kernel
theorem dX10_seed_1 : decode cX10_seed 1 = .ok (.getfield 7, 3) := by decide +kernel
theorem dX10_seed_4 : decode cX10_seed 4 = .ok (.sipush 284, 3) := by decide +kernel
theorem dX10_seed_7 : decode cX10_seed 7 = .ok (.iaload, 1) := by decide +kernel
theorem dX10_seed_8 : decode cX10_seed 8 = .ok (.istore_n 2, 1) := by decide +kernel
theorem dX10_seed_9 : decode cX10_seed 9 = .ok (.aload_n 0, 1) := by decide +kernel
theorem dX10_seed_10 : decode cX10_seed 10 = .ok (.getfield 7, 3) := by decide +kernel
theorem dX10_seed_13 : decode cX10_seed 13 = .ok (.sipush 284, 3) := by decide +kernel
theorem dX10_seed_16 : decode cX10_seed 16 = .ok (.iload_n 1, 1) := by decide +kernel
theorem dX10_seed_17 : decode cX10_seed 17 = .ok (.iastore, 1) := by decide +kernel
theorem dX10_seed_18 : decode cX10_seed 18 = .ok (.iload_n 2, 1) := by decide +kernel
theorem dX10_seed_19 : decode cX10_seed 19 = .ok (.ireturn, 1) := by decide +kernel
theorem dX10_feed_0 : decode cX10_feed 0 = .ok (.iload_n 2, 1) := by decide +kernel
theorem dX10_feed_1 : decode cX10_feed 1 = .ok (.i2l, 1) := by decide +kernel
theorem dX10_feed_2 : decode cX10_feed 2 = .ok (.lconst 1, 1) := by decide +kernel
theorem dX10_feed_3 : decode cX10_feed 3 = .ok (.ldc2_w 109, 3) := by decide +kernel
theorem dX10_feed_6 : decode cX10_feed 6 = .ok (.invokestatic 71, 3) := by decide +kernel
theorem dX10_feed_9 : decode cX10_feed 9 = .ok (.ifCond .ne 10, 3) := by decide +kernel
theorem dX10_feed_12 : decode cX10_feed 12 = .ok (.aload_n 0, 1) := by decide +kernel
theorem dX10_feed_13 : decode cX10_feed 13 = .ok (.ldc 68, 2) := by decide +kernel
theorem dX10_feed_15 : decode cX10_feed 15 = .ok (.invokevirtual 86, 3) := by decide +kernel
theorem dX10_feed_18 : decode cX10_feed 18 = .ok (.ireturn, 1) := by decide +kernel
theorem dX10_feed_19 : decode cX10_feed 19 = .ok (.aload_n 0, 1) := by decide +kernel
theorem dX10_feed_20 : decode cX10_feed 20 = .ok (.getfield 235, 3) := by decide +kernel
theorem dX10_feed_23 : decode cX10_feed 23 = .ok (.iload_n 2, 1) := by decide +kernel
theorem dX10_feed_24 : decode cX10_feed 24 = .ok (.iadd, 1) := by decide +kernel
theorem dX10_feed_25 : decode cX10_feed 25 = .ok (.bipush 120, 2) := by decide +kernel
theorem dX10_feed_27 : decode cX10_feed 27 = .ok (.if_icmp .le 10, 3) := by decide +kernel
theorem dX10_feed_30 : decode cX10_feed 30 = .ok (.aload_n 0, 1) := by decide +kernel
theorem dX10_feed_31 : decode cX10_feed 31 = .ok (.ldc 104, 2) := by decide +kernel
theorem dX10_feed_33 : decode cX10_feed 33 = .ok (.invokevirtual 86, 3) := by decide +kernel
theorem dX10_feed_36 : decode cX10_feed 36 = .ok (.ireturn, 1) := by decide +kernel
theorem dX10_feed_37 : decode cX10_feed 37 = .ok (.iload_n 2, 1) := by decide +kernel
theorem dX10_feed_38 : decode cX10_feed 38 = .ok (.iconst 1, 1) := by decide +kernel
theorem dX10_feed_39 : decode cX10_feed 39 = .ok (.isub, 1) := by decide +kernel
theorem dX10_feed_40 : decode cX10_feed 40 = .ok (.istore_n 3, 1) := by decide +kernel
theorem dX10_feed_41 : decode cX10_feed 41 = .ok (.iload_n 3, 1) := by decide +kernel
theorem dX10_feed_42 : decode cX10_feed 42 = .ok (.ifCond .lt 38, 3) := by decide +kernel
theorem dX10_feed_45 : decode cX10_feed 45 = .ok (.aload_n 0, 1) := by decide +kernel
theorem dX10_feed_46 : decode cX10_feed 46 = .ok (.getfield 53, 3) := by decide +kernel
theorem dX10_feed_49 : decode cX10_feed 49 = .ok (.aload_n 0, 1) := by decide +kernel
theorem dX10_feed_50 : decode cX10_feed 50 = .ok (.getfield 235, 3) := by decide +kernel
theorem dX10_feed_53 : decode cX10_feed 53 = .ok (.iload_n 1, 1) := by decide +kernel
theorem dX10_feed_54 : decode cX10_feed 54 = .ok (.bipush 8, 2) := by decide +kernel
theorem dX10_feed_56 : decode cX10_feed 56 = .ok (.iload_n 3, 1) := by decide +kernel
theorem dX10_feed_57 : decode cX10_feed 57 = .ok (.imul, 1) := by decide +kernel
theorem dX10_feed_58 : decode cX10_feed 58 = .ok (.ishr, 1) := by decide +kernel
theorem dX10_feed_59 : decode cX10_feed 59 = .ok (.sipush 255, 3) := by decide +kernel
theorem dX10_feed_62 : decode cX10_feed 62 = .ok (.iand, 1) := by decide +kernel
theorem dX10_feed_63 : decode cX10_feed 63 = .ok (.iastore, 1) := by decide +kernel
theorem dX10_feed_64 : decode cX10_feed 64 = .ok (.aload_n 0, 1) := by decide +kernel
theorem dX10_feed_65 : decode cX10_feed 65 = .ok (.dup, 1) := by decide +kernel
theorem dX10_feed_66 : decode cX10_feed 66 = .ok (.getfield 235, 3) := by decide +kernel
theorem dX10_feed_69 : decode cX10_feed 69 = .ok (.iconst 1, 1) := by decide +kernel
theorem dX10_feed_70 : decode cX10_feed 70 = .ok (.iadd, 1) := by decide +kernel
theorem dX10_feed_71 : decode cX10_feed 71 = .ok (.putfield 235, 3) := by decide +kernel
theorem dX10_feed_74 : decode cX10_feed 74 = .ok (.iinc 3 (-1), 3) := by decide +kernel
theorem dX10_feed_77 : decode cX10_feed 77 = .ok (.goto (-36), 3) := by decide +kernel
theorem dX10_feed_80 : decode cX10_feed 80 = .ok (.aload_n 0, 1) := by decide +kernel
theorem dX10_feed_81 : decode cX10_feed 81 = .ok (.getfield 235, 3) := by decide +kernel
theorem dX10_feed_84 : decode cX10_feed 84 = .ok (.ireturn, 1) := by decide +kernel
theorem dX10_wipe_0 : decode cX10_wipe 0 = .ok (.aload_n 0, 1) := by decide +kernel
theorem dX10_wipe_1 : decode cX10_wipe 1 = .ok (.getfield 235, 3) := by decide +kernel
theorem dX10_wipe_4 : decode cX10_wipe 4 = .ok (.istore_n 1, 1) := by decide +kernel
theorem dX10_wipe_5 : decode cX10_wipe 5 = .ok (.aload_n 0, 1) := by decide +kernel
theorem dX10_wipe_6 : decode cX10_wipe 6 = .ok (.iconst 0, 1) := by decide +kernel
theorem dX10_wipe_7 : decode cX10_wipe 7 = .ok (.putfield 235, 3) := by decide +kernel
theorem dX10_wipe_10 : decode cX10_wipe 10 = .ok (.iload_n 1, 1) := by decide +kernel
theorem dX10_wipe_11 : decode cX10_wipe 11 = .ok (.ireturn, 1) := by decide +kernel
theorem dX10_byteAt_0 : decode cX10_byteAt 0 = .ok (.iload_n 1, 1) := by decide +kernel
theorem dX10_byteAt_1 : decode cX10_byteAt 1 = .ok (.aload_n 0, 1) := by decide +kernel
theorem dX10_byteAt_2 : decode cX10_byteAt 2 = .ok (.getfield 235, 3) := by decide +kernel
theorem dX10_byteAt_5 : decode cX10_byteAt 5 = .ok (.if_icmp .ge 12, 3) := by decide +kernel
theorem dX10_byteAt_8 : decode cX10_byteAt 8 = .ok (.aload_n 0, 1) := by decide +kernel
theorem dX10_byteAt_9 : decode cX10_byteAt 9 = .ok (.getfield 53, 3) := by decide +kernel
theorem dX10_byteAt_12 : decode cX10_byteAt 12 = .ok (.iload_n 1, 1) := by decide +kernel
theorem dX10_byteAt_13 : decode cX10_byteAt 13 = .ok (.iaload, 1) := by decide +kernel
theorem dX10_byteAt_14 : decode cX10_byteAt 14 = .ok (.goto 4, 3) := by decide +kernel
theorem dX10_byteAt_17 : decode cX10_byteAt 17 = .ok (.iconst (-1), 1) := by decide +kernel
theorem dX10_byteAt_18 : decode cX10_byteAt 18 = .ok (.ireturn, 1) := by decide +kernel
theorem dX10_isLetter_0 : decode cX10_isLetter 0 = .ok (.iload_n 0, 1) := by decide +kernel
theorem dX10_isLetter_1 : decode cX10_isLetter 1 = .ok (.i2l, 1) := by decide +kernel
theorem dX10_isLetter_2 : decode cX10_isLetter 2 = .ok (.ldc2_w 238, 3) := by decide +kernel
theorem dX10_isLetter_5 : decode cX10_isLetter 5 = .ok (.ldc2_w 240, 3) := by decide +kernel
theorem dX10_isLetter_8 : decode cX10_isLetter 8 = .ok (.invokestatic 71, 3) := by decide +kernel
theorem dX10_isLetter_11 : decode cX10_isLetter 11 = .ok (.ireturn, 1) := by decide +kernel
theorem dX10_isDigit_0 : decode cX10_isDigit 0 = .ok (.iload_n 0, 1) := by decide +kernel
theorem dX10_isDigit_1 : decode cX10_isDigit 1 = .ok (.i2l, 1) := by decide +kernel
theorem dX10_isDigit_2 : decode cX10_isDigit 2 = .ok (.ldc2_w 242, 3) := by decide +kernel
theorem dX10_isDigit_5 : decode cX10_isDigit 5 = .ok (.ldc2_w 244, 3) := by decide +kernel
theorem dX10_isDigit_8 : decode cX10_isDigit 8 = .ok (.invokestatic 71, 3) := by decide +kernel
theorem dX10_isDigit_11 : decode cX10_isDigit 11 = .ok (.ireturn, 1) := by decide +kernel
theorem dX10_token_0 : decode cX10_token 0 = .ok (.aload_n 0, 1) := by decide +kernel
theorem dX10_token_1 : decode cX10_token 1 = .ok (.aload_n 0, 1) := by decide +kernel
theorem dX10_token_2 : decode cX10_token 2 = .ok (.getfield 246, 3) := by decide +kernel
theorem dX10_token_5 : decode cX10_token 5 = .ok (.putfield 249, 3) := by decide +kernel
theorem dX10_token_8 : decode cX10_token 8 = .ok (.aload_n 0, 1) := by decide +kernel
theorem dX10_token_9 : decode cX10_token 9 = .ok (.aload_n 0, 1) := by decide +kernel
theorem dX10_token_10 : decode cX10_token 10 = .ok (.getfield 249, 3) := by decide +kernel
theorem dX10_token_13 : decode cX10_token 13 = .ok (.invokevirtual 252, 3) := by decide +kernel
theorem dX10_token_16 : decode cX10_token 16 = .ok (.bipush 32, 2) := by decide +kernel
theorem dX10_token_18 : decode cX10_token 18 = .ok (.if_icmp .ne 16, 3) := by decide +kernel
theorem dX10_token_21 : decode cX10_token 21 = .ok (.aload_n 0, 1) := by decide +kernel
theorem dX10_token_22 : decode cX10_token 22 = .ok (.dup, 1) := by decide +kernel
theorem dX10_token_23 : decode cX10_token 23 = .ok (.getfield 249, 3) := by decide +kernel
theorem dX10_token_26 : decode cX10_token 26 = .ok (.iconst 1, 1) := by decide +kernel
theorem dX10_token_27 : decode cX10_token 27 = .ok (.iadd, 1) := by decide +kernel
theorem dX10_token_28 : decode cX10_token 28 = .ok (.putfield 249, 3) := by decide +kernel
theorem dX10_token_31 : decode cX10_token 31 = .ok (.goto (-23), 3) := by decide +kernel
theorem dX10_token_34 : decode cX10_token 34 = .ok (.aload_n 0, 1) := by decide +kernel
theorem dX10_token_35 : decode cX10_token 35 = .ok (.aload_n 0, 1) := by decide +kernel
theorem dX10_token_36 : decode cX10_token 36 = .ok (.getfield 249, 3) := by decide +kernel
theorem dX10_token_39 : decode cX10_token 39 = .ok (.invokevirtual 252, 3) := by decide +kernel
theorem dX10_token_42 : decode cX10_token 42 = .ok (.invokestatic 255, 3) := by decide +kernel
theorem dX10_token_45 : decode cX10_token 45 = .ok (.istore_n 1, 1) := by decide +kernel
theorem dX10_token_46 : decode cX10_token 46 = .ok (.aload_n 0, 1) := by decide +kernel
theorem dX10_token_47 : decode cX10_token 47 = .ok (.aload_n 0, 1) := by decide +kernel
theorem dX10_token_48 : decode cX10_token 48 = .ok (.getfield 249, 3) := by decide +kernel
theorem dX10_token_51 : decode cX10_token 51 = .ok (.invokevirtual 252, 3) := by decide +kernel
theorem dX10_token_54 : decode cX10_token 54 = .ok (.invokestatic 258, 3) := by decide +kernel
theorem dX10_token_57 : decode cX10_token 57 = .ok (.istore_n 2, 1) := by decide +kernel
theorem dX10_token_58 : decode cX10_token 58 = .ok (.aload_n 0, 1) := by decide +kernel
theorem dX10_token_59 : decode cX10_token 59 = .ok (.aload_n 0, 1) := by decide +kernel
theorem dX10_token_60 : decode cX10_token 60 = .ok (.getfield 249, 3) := by decide +kernel
theorem dX10_token_63 : decode cX10_token 63 = .ok (.aload_n 0, 1) := by decide +kernel
theorem dX10_token_64 : decode cX10_token 64 = .ok (.getfield 235, 3) := by decide +kernel
theorem dX10_token_67 : decode cX10_token 67 = .ok (.if_icmp .ge 12, 3) := by decide +kernel
theorem dX10_token_70 : decode cX10_token 70 = .ok (.aload_n 0, 1) := by decide +kernel
theorem dX10_token_71 : decode cX10_token 71 = .ok (.getfield 249, 3) := by decide +kernel
theorem dX10_token_74 : decode cX10_token 74 = .ok (.iconst 1, 1) := by decide +kernel
theorem dX10_token_75 : decode cX10_token 75 = .ok (.iadd, 1) := by decide +kernel
theorem dX10_token_76 : decode cX10_token 76 = .ok (.goto 7, 3) := by decide +kernel
theorem dX10_token_79 : decode cX10_token 79 = .ok (.aload_n 0, 1) := by decide +kernel
theorem dX10_token_80 : decode cX10_token 80 = .ok (.getfield 249, 3) := by decide +kernel
theorem dX10_token_83 : decode cX10_token 83 = .ok (.putfield 246, 3) := by decide +kernel
theorem dX10_token_86 : decode cX10_token 86 = .ok (.iload_n 1, 1) := by decide +kernel
theorem dX10_token_87 : decode cX10_token 87 = .ok (.ifCond .eq 17, 3) := by decide +kernel
theorem dX10_token_90 : decode cX10_token 90 = .ok (.aload_n 0, 1) := by decide +kernel
theorem dX10_token_91 : decode cX10_token 91 = .ok (.aload_n 0, 1) := by decide +kernel
theorem dX10_token_92 : decode cX10_token 92 = .ok (.getfield 246, 3) := by decide +kernel
theorem dX10_token_95 : decode cX10_token 95 = .ok (.invokevirtual 252, 3) := by decide +kernel
theorem dX10_token_98 : decode cX10_token 98 = .ok (.invokestatic 255, 3) := by decide +kernel
theorem dX10_token_101 : decode cX10_token 101 = .ok (.ifCond .ne 21, 3) := by decide +kernel
theorem dX10_token_104 : decode cX10_token 104 = .ok (.iload_n 2, 1) := by decide +kernel
theorem dX10_token_105 : decode cX10_token 105 = .ok (.ifCond .eq 30, 3) := by decide +kernel
theorem dX10_token_108 : decode cX10_token 108 = .ok (.aload_n 0, 1) := by decide +kernel
theorem dX10_token_109 : decode cX10_token 109 = .ok (.aload_n 0, 1) := by decide +kernel
theorem dX10_token_110 : decode cX10_token 110 = .ok (.getfield 246, 3) := by decide +kernel
theorem dX10_token_113 : decode cX10_token 113 = .ok (.invokevirtual 252, 3) := by decide +kernel
theorem dX10_token_116 : decode cX10_token 116 = .ok (.invokestatic 258, 3) := by decide +kernel
theorem dX10_token_119 : decode cX10_token 119 = .ok (.ifCond .eq 16, 3) := by decide +kernel
theorem dX10_token_122 : decode cX10_token 122 = .ok (.aload_n 0, 1) := by decide +kernel
theorem dX10_token_123 : decode cX10_token 123 = .ok (.dup, 1) := by decide +kernel
theorem dX10_token_124 : decode cX10_token 124 = .ok (.getfield 246, 3) := by decide +kernel
theorem dX10_token_127 : decode cX10_token 127 = .ok (.iconst 1, 1) := by decide +kernel
theorem dX10_token_128 : decode cX10_token 128 = .ok (.iadd, 1) := by decide +kernel
theorem dX10_token_129 : decode cX10_token 129 = .ok (.putfield 246, 3) := by decide +kernel
theorem dX10_token_132 : decode cX10_token 132 = .ok (.goto (-46), 3) := by decide +kernel
theorem dX10_token_135 : decode cX10_token 135 = .ok (.return_, 1) := by decide +kernel
theorem dX10_needs_0 : decode cX10_needs 0 = .ok (.aload_n 0, 1) := by decide +kernel
theorem dX10_needs_1 : decode cX10_needs 1 = .ok (.aload_n 0, 1) := by decide +kernel
theorem dX10_needs_2 : decode cX10_needs 2 = .ok (.getfield 261, 3) := by decide +kernel
theorem dX10_needs_5 : decode cX10_needs 5 = .ok (.ifCond .ne 7, 3) := by decide +kernel
theorem dX10_needs_8 : decode cX10_needs 8 = .ok (.iload_n 1, 1) := by decide +kernel
theorem dX10_needs_9 : decode cX10_needs 9 = .ok (.ifCond .ne 7, 3) := by decide +kernel
theorem dX10_needs_12 : decode cX10_needs 12 = .ok (.iconst 1, 1) := by decide +kernel
theorem dX10_needs_13 : decode cX10_needs 13 = .ok (.goto 4, 3) := by decide +kernel
theorem dX10_needs_16 : decode cX10_needs 16 = .ok (.iconst 0, 1) := by decide +kernel
theorem dX10_needs_17 : decode cX10_needs 17 = .ok (.putfield 261, 3) := by decide +kernel
theorem dX10_needs_20 : decode cX10_needs 20 = .ok (.aload_n 0, 1) := by decide +kernel
theorem dX10_needs_21 : decode cX10_needs 21 = .ok (.getfield 261, 3) := by decide +kernel
theorem dX10_needs_24 : decode cX10_needs 24 = .ok (.ifCond .ne 7, 3) := by decide +kernel
theorem dX10_needs_27 : decode cX10_needs 27 = .ok (.aload_n 0, 1) := by decide +kernel
theorem dX10_needs_28 : decode cX10_needs 28 = .ok (.invokevirtual 264, 3) := by decide +kernel
theorem dX10_needs_31 : decode cX10_needs 31 = .ok (.return_, 1) := by decide +kernel
theorem dX10_isLetterAt_0 : decode cX10_isLetterAt 0 = .ok (.iload_n 2, 1) := by decide +kernel
theorem dX10_isLetterAt_1 : decode cX10_isLetterAt 1 = .ok (.ifCond .eq 17, 3) := by decide +kernel
theorem dX10_isLetterAt_4 : decode cX10_isLetterAt 4 = .ok (.aload_n 0, 1) := by decide +kernel
theorem dX10_isLetterAt_5 : decode cX10_isLetterAt 5 = .ok (.aload_n 0, 1) := by decide +kernel
theorem dX10_isLetterAt_6 : decode cX10_isLetterAt 6 = .ok (.getfield 249, 3) := by decide +kernel
theorem dX10_isLetterAt_9 : decode cX10_isLetterAt 9 = .ok (.iload_n 1, 1) := by decide +kernel
theorem dX10_isLetterAt_10 : decode cX10_isLetterAt 10 = .ok (.iadd, 1) := by decide +kernel
theorem dX10_isLetterAt_11 : decode cX10_isLetterAt 11 = .ok (.invokevirtual 252, 3) := by decide +kernel
theorem dX10_isLetterAt_14 : decode cX10_isLetterAt 14 = .ok (.iload_n 2, 1) := by decide +kernel
theorem dX10_isLetterAt_15 : decode cX10_isLetterAt 15 = .ok (.if_icmp .ne 7, 3) := by decide +kernel
theorem dX10_isLetterAt_18 : decode cX10_isLetterAt 18 = .ok (.iconst 1, 1) := by decide +kernel
theorem dX10_isLetterAt_19 : decode cX10_isLetterAt 19 = .ok (.goto 4, 3) := by decide +kernel
theorem dX10_isLetterAt_22 : decode cX10_isLetterAt 22 = .ok (.iconst 0, 1) := by decide +kernel
theorem dX10_isLetterAt_23 : decode cX10_isLetterAt 23 = .ok (.ireturn, 1) := by decide +kernel
theorem dX10_isWord_0 : decode cX10_isWord 0 = .ok (.iload_n 3, 1) := by decide +kernel
theorem dX10_isWord_1 : decode cX10_isWord 1 = .ok (.ifCond .ne 7, 3) := by decide +kernel
theorem dX10_isWord_4 : decode cX10_isWord 4 = .ok (.iconst 2, 1) := by decide +kernel
theorem dX10_isWord_5 : decode cX10_isWord 5 = .ok (.goto 42, 3) := by decide +kernel
theorem dX10_isWord_8 : decode cX10_isWord 8 = .ok (.iload 4, 2) := by decide +kernel
theorem dX10_isWord_10 : decode cX10_isWord 10 = .ok (.ifCond .ne 7, 3) := by decide +kernel
theorem dX10_isWord_13 : decode cX10_isWord 13 = .ok (.iconst 3, 1) := by decide +kernel
theorem dX10_isWord_14 : decode cX10_isWord 14 = .ok (.goto 33, 3) := by decide +kernel
theorem dX10_isWord_17 : decode cX10_isWord 17 = .ok (.iload 5, 2) := by decide +kernel
theorem dX10_isWord_19 : decode cX10_isWord 19 = .ok (.ifCond .ne 7, 3) := by decide +kernel
theorem dX10_isWord_22 : decode cX10_isWord 22 = .ok (.iconst 4, 1) := by decide +kernel
theorem dX10_isWord_23 : decode cX10_isWord 23 = .ok (.goto 24, 3) := by decide +kernel
theorem dX10_isWord_26 : decode cX10_isWord 26 = .ok (.iload 6, 2) := by decide +kernel
theorem dX10_isWord_28 : decode cX10_isWord 28 = .ok (.ifCond .ne 7, 3) := by decide +kernel
theorem dX10_isWord_31 : decode cX10_isWord 31 = .ok (.iconst 5, 1) := by decide +kernel
theorem dX10_isWord_32 : decode cX10_isWord 32 = .ok (.goto 15, 3) := by decide +kernel
theorem dX10_isWord_35 : decode cX10_isWord 35 = .ok (.iload 7, 2) := by decide +kernel
theorem dX10_isWord_37 : decode cX10_isWord 37 = .ok (.ifCond .ne 8, 3) := by decide +kernel
theorem dX10_isWord_40 : decode cX10_isWord 40 = .ok (.bipush 6, 2) := by decide +kernel
theorem dX10_isWord_42 : decode cX10_isWord 42 = .ok (.goto 5, 3) := by decide +kernel
theorem dX10_isWord_45 : decode cX10_isWord 45 = .ok (.bipush 7, 2) := by decide +kernel
theorem dX10_isWord_47 : decode cX10_isWord 47 = .ok (.istore 8, 2) := by decide +kernel
theorem dX10_isWord_49 : decode cX10_isWord 49 = .ok (.aload_n 0, 1) := by decide +kernel
theorem dX10_isWord_50 : decode cX10_isWord 50 = .ok (.getfield 261, 3) := by decide +kernel
theorem dX10_isWord_53 : decode cX10_isWord 53 = .ok (.ifCond .ne 89, 3) := by decide +kernel
theorem dX10_isWord_56 : decode cX10_isWord 56 = .ok (.aload_n 0, 1) := by decide +kernel
theorem dX10_isWord_57 : decode cX10_isWord 57 = .ok (.getfield 246, 3) := by decide +kernel
theorem dX10_isWord_60 : decode cX10_isWord 60 = .ok (.aload_n 0, 1) := by decide +kernel
theorem dX10_isWord_61 : decode cX10_isWord 61 = .ok (.getfield 249, 3) := by decide +kernel
theorem dX10_isWord_64 : decode cX10_isWord 64 = .ok (.isub, 1) := by decide +kernel
theorem dX10_isWord_65 : decode cX10_isWord 65 = .ok (.iload 8, 2) := by decide +kernel
theorem dX10_isWord_67 : decode cX10_isWord 67 = .ok (.if_icmp .ne 75, 3) := by decide +kernel
theorem dX10_isWord_70 : decode cX10_isWord 70 = .ok (.aload_n 0, 1) := by decide +kernel
theorem dX10_isWord_71 : decode cX10_isWord 71 = .ok (.iconst 0, 1) := by decide +kernel
theorem dX10_isWord_72 : decode cX10_isWord 72 = .ok (.iload_n 1, 1) := by decide +kernel
theorem dX10_isWord_73 : decode cX10_isWord 73 = .ok (.invokevirtual 267, 3) := by decide +kernel
theorem dX10_isWord_76 : decode cX10_isWord 76 = .ok (.ifCond .eq 66, 3) := by decide +kernel
theorem dX10_isWord_79 : decode cX10_isWord 79 = .ok (.aload_n 0, 1) := by decide +kernel
theorem dX10_isWord_80 : decode cX10_isWord 80 = .ok (.iconst 1, 1) := by decide +kernel
theorem dX10_isWord_81 : decode cX10_isWord 81 = .ok (.iload_n 2, 1) := by decide +kernel
theorem dX10_isWord_82 : decode cX10_isWord 82 = .ok (.invokevirtual 267, 3) := by decide +kernel
theorem dX10_isWord_85 : decode cX10_isWord 85 = .ok (.ifCond .eq 57, 3) := by decide +kernel
theorem dX10_isWord_88 : decode cX10_isWord 88 = .ok (.aload_n 0, 1) := by decide +kernel
theorem dX10_isWord_89 : decode cX10_isWord 89 = .ok (.iconst 2, 1) := by decide +kernel
theorem dX10_isWord_90 : decode cX10_isWord 90 = .ok (.iload_n 3, 1) := by decide +kernel
theorem dX10_isWord_91 : decode cX10_isWord 91 = .ok (.invokevirtual 267, 3) := by decide +kernel
theorem dX10_isWord_94 : decode cX10_isWord 94 = .ok (.ifCond .eq 48, 3) := by decide +kernel
theorem dX10_isWord_97 : decode cX10_isWord 97 = .ok (.aload_n 0, 1) := by decide +kernel
theorem dX10_isWord_98 : decode cX10_isWord 98 = .ok (.iconst 3, 1) := by decide +kernel
theorem dX10_isWord_99 : decode cX10_isWord 99 = .ok (.iload 4, 2) := by decide +kernel
theorem dX10_isWord_101 : decode cX10_isWord 101 = .ok (.invokevirtual 267, 3) := by decide +kernel
theorem dX10_isWord_104 : decode cX10_isWord 104 = .ok (.ifCond .eq 38, 3) := by decide +kernel
theorem dX10_isWord_107 : decode cX10_isWord 107 = .ok (.aload_n 0, 1) := by decide +kernel
theorem dX10_isWord_108 : decode cX10_isWord 108 = .ok (.iconst 4, 1) := by decide +kernel
theorem dX10_isWord_109 : decode cX10_isWord 109 = .ok (.iload 5, 2) := by decide +kernel
theorem dX10_isWord_111 : decode cX10_isWord 111 = .ok (.invokevirtual 267, 3) := by decide +kernel
theorem dX10_isWord_114 : decode cX10_isWord 114 = .ok (.ifCond .eq 28, 3) := by decide +kernel
theorem dX10_isWord_117 : decode cX10_isWord 117 = .ok (.aload_n 0, 1) := by decide +kernel
theorem dX10_isWord_118 : decode cX10_isWord 118 = .ok (.iconst 5, 1) := by decide +kernel
theorem dX10_isWord_119 : decode cX10_isWord 119 = .ok (.iload 6, 2) := by decide +kernel
theorem dX10_isWord_121 : decode cX10_isWord 121 = .ok (.invokevirtual 267, 3) := by decide +kernel
theorem dX10_isWord_124 : decode cX10_isWord 124 = .ok (.ifCond .eq 18, 3) := by decide +kernel
theorem dX10_isWord_127 : decode cX10_isWord 127 = .ok (.aload_n 0, 1) := by decide +kernel
theorem dX10_isWord_128 : decode cX10_isWord 128 = .ok (.bipush 6, 2) := by decide +kernel
theorem dX10_isWord_130 : decode cX10_isWord 130 = .ok (.iload 7, 2) := by decide +kernel
theorem dX10_isWord_132 : decode cX10_isWord 132 = .ok (.invokevirtual 267, 3) := by decide +kernel
theorem dX10_isWord_135 : decode cX10_isWord 135 = .ok (.ifCond .eq 7, 3) := by decide +kernel
theorem dX10_isWord_138 : decode cX10_isWord 138 = .ok (.iconst 1, 1) := by decide +kernel
theorem dX10_isWord_139 : decode cX10_isWord 139 = .ok (.goto 4, 3) := by decide +kernel
theorem dX10_isWord_142 : decode cX10_isWord 142 = .ok (.iconst 0, 1) := by decide +kernel
theorem dX10_isWord_143 : decode cX10_isWord 143 = .ok (.ireturn, 1) := by decide +kernel
theorem dX10_number_0 : decode cX10_number 0 = .ok (.aload_n 0, 1) := by decide +kernel
theorem dX10_number_1 : decode cX10_number 1 = .ok (.getfield 261, 3) := by decide +kernel
theorem dX10_number_4 : decode cX10_number 4 = .ok (.ifCond .eq 4, 3) := by decide +kernel
theorem dX10_number_7 : decode cX10_number 7 = .ok (.return_, 1) := by decide +kernel
theorem dX10_number_8 : decode cX10_number 8 = .ok (.aload_n 0, 1) := by decide +kernel
theorem dX10_number_9 : decode cX10_number 9 = .ok (.aload_n 0, 1) := by decide +kernel
theorem dX10_number_10 : decode cX10_number 10 = .ok (.getfield 249, 3) := by decide +kernel
theorem dX10_number_13 : decode cX10_number 13 = .ok (.invokevirtual 252, 3) := by decide +kernel
theorem dX10_number_16 : decode cX10_number 16 = .ok (.invokestatic 258, 3) := by decide +kernel
theorem dX10_number_19 : decode cX10_number 19 = .ok (.istore_n 3, 1) := by decide +kernel
theorem dX10_number_20 : decode cX10_number 20 = .ok (.iconst 0, 1) := by decide +kernel
theorem dX10_number_21 : decode cX10_number 21 = .ok (.istore 4, 2) := by decide +kernel
theorem dX10_number_23 : decode cX10_number 23 = .ok (.aload_n 0, 1) := by decide +kernel
theorem dX10_number_24 : decode cX10_number 24 = .ok (.getfield 249, 3) := by decide +kernel
theorem dX10_number_27 : decode cX10_number 27 = .ok (.istore 5, 2) := by decide +kernel
theorem dX10_number_29 : decode cX10_number 29 = .ok (.iload 5, 2) := by decide +kernel
theorem dX10_number_31 : decode cX10_number 31 = .ok (.aload_n 0, 1) := by decide +kernel
theorem dX10_number_32 : decode cX10_number 32 = .ok (.getfield 246, 3) := by decide +kernel
theorem dX10_number_35 : decode cX10_number 35 = .ok (.if_icmp .ge 44, 3) := by decide +kernel
theorem dX10_number_38 : decode cX10_number 38 = .ok (.iload_n 3, 1) := by decide +kernel
theorem dX10_number_39 : decode cX10_number 39 = .ok (.ifCond .eq 40, 3) := by decide +kernel
theorem dX10_number_42 : decode cX10_number 42 = .ok (.iload 4, 2) := by decide +kernel
theorem dX10_number_44 : decode cX10_number 44 = .ok (.sipush 9999, 3) := by decide +kernel
theorem dX10_number_47 : decode cX10_number 47 = .ok (.if_icmp .le 8, 3) := by decide +kernel
theorem dX10_number_50 : decode cX10_number 50 = .ok (.iload 4, 2) := by decide +kernel
theorem dX10_number_52 : decode cX10_number 52 = .ok (.goto 19, 3) := by decide +kernel
theorem dX10_number_55 : decode cX10_number 55 = .ok (.bipush 10, 2) := by decide +kernel
theorem dX10_number_57 : decode cX10_number 57 = .ok (.iload 4, 2) := by decide +kernel
theorem dX10_number_59 : decode cX10_number 59 = .ok (.imul, 1) := by decide +kernel
theorem dX10_number_60 : decode cX10_number 60 = .ok (.aload_n 0, 1) := by decide +kernel
theorem dX10_number_61 : decode cX10_number 61 = .ok (.getfield 53, 3) := by decide +kernel
theorem dX10_number_64 : decode cX10_number 64 = .ok (.iload 5, 2) := by decide +kernel
theorem dX10_number_66 : decode cX10_number 66 = .ok (.iaload, 1) := by decide +kernel
theorem dX10_number_67 : decode cX10_number 67 = .ok (.iadd, 1) := by decide +kernel
theorem dX10_number_68 : decode cX10_number 68 = .ok (.bipush 48, 2) := by decide +kernel
theorem dX10_number_70 : decode cX10_number 70 = .ok (.isub, 1) := by decide +kernel
theorem dX10_number_71 : decode cX10_number 71 = .ok (.istore 4, 2) := by decide +kernel
theorem dX10_number_73 : decode cX10_number 73 = .ok (.iinc 5 1, 3) := by decide +kernel
theorem dX10_number_76 : decode cX10_number 76 = .ok (.goto (-47), 3) := by decide +kernel
theorem dX10_number_79 : decode cX10_number 79 = .ok (.aload_n 0, 1) := by decide +kernel
theorem dX10_number_80 : decode cX10_number 80 = .ok (.iload 4, 2) := by decide +kernel
theorem dX10_number_82 : decode cX10_number 82 = .ok (.putfield 270, 3) := by decide +kernel
theorem dX10_number_85 : decode cX10_number 85 = .ok (.aload_n 0, 1) := by decide +kernel
theorem dX10_number_86 : decode cX10_number 86 = .ok (.iload_n 3, 1) := by decide +kernel
theorem dX10_number_87 : decode cX10_number 87 = .ok (.ifCond .eq 20, 3) := by decide +kernel
theorem dX10_number_90 : decode cX10_number 90 = .ok (.iload 4, 2) := by decide +kernel
theorem dX10_number_92 : decode cX10_number 92 = .ok (.i2l, 1) := by decide +kernel
theorem dX10_number_93 : decode cX10_number 93 = .ok (.iload_n 1, 1) := by decide +kernel
theorem dX10_number_94 : decode cX10_number 94 = .ok (.i2l, 1) := by decide +kernel
theorem dX10_number_95 : decode cX10_number 95 = .ok (.iload_n 2, 1) := by decide +kernel
theorem dX10_number_96 : decode cX10_number 96 = .ok (.i2l, 1) := by decide +kernel
theorem dX10_number_97 : decode cX10_number 97 = .ok (.invokestatic 71, 3) := by decide +kernel
theorem dX10_number_100 : decode cX10_number 100 = .ok (.ifCond .eq 7, 3) := by decide +kernel
theorem dX10_number_103 : decode cX10_number 103 = .ok (.iconst 1, 1) := by decide +kernel
theorem dX10_number_104 : decode cX10_number 104 = .ok (.goto 4, 3) := by decide +kernel
theorem dX10_number_107 : decode cX10_number 107 = .ok (.iconst 0, 1) := by decide +kernel
theorem dX10_number_108 : decode cX10_number 108 = .ok (.invokevirtual 273, 3) := by decide +kernel
theorem dX10_number_111 : decode cX10_number 111 = .ok (.return_, 1) := by decide +kernel
theorem dX10_kindHere_0 : decode cX10_kindHere 0 = .ok (.aload_n 0, 1) := by decide +kernel
theorem dX10_kindHere_1 : decode cX10_kindHere 1 = .ok (.bipush 116, 2) := by decide +kernel
theorem dX10_kindHere_3 : decode cX10_kindHere 3 = .ok (.bipush 101, 2) := by decide +kernel
theorem dX10_kindHere_5 : decode cX10_kindHere 5 = .ok (.bipush 114, 2) := by decide +kernel
theorem dX10_kindHere_7 : decode cX10_kindHere 7 = .ok (.bipush 109, 2) := by decide +kernel
theorem dX10_kindHere_9 : decode cX10_kindHere 9 = .ok (.iconst 0, 1) := by decide +kernel
theorem dX10_kindHere_10 : decode cX10_kindHere 10 = .ok (.iconst 0, 1) := by decide +kernel
theorem dX10_kindHere_11 : decode cX10_kindHere 11 = .ok (.iconst 0, 1) := by decide +kernel
theorem dX10_kindHere_12 : decode cX10_kindHere 12 = .ok (.invokevirtual 277, 3) := by decide +kernel
theorem dX10_kindHere_15 : decode cX10_kindHere 15 = .ok (.ifCond .eq 5, 3) := by decide +kernel
theorem dX10_kindHere_18 : decode cX10_kindHere 18 = .ok (.iconst 0, 1) := by decide +kernel
theorem dX10_kindHere_19 : decode cX10_kindHere 19 = .ok (.ireturn, 1) := by decide +kernel
theorem dX10_kindHere_20 : decode cX10_kindHere 20 = .ok (.aload_n 0, 1) := by decide +kernel
theorem dX10_kindHere_21 : decode cX10_kindHere 21 = .ok (.bipush 98, 2) := by decide +kernel
theorem dX10_kindHere_23 : decode cX10_kindHere 23 = .ok (.bipush 97, 2) := by decide +kernel
theorem dX10_kindHere_25 : decode cX10_kindHere 25 = .ok (.bipush 114, 2) := by decide +kernel
theorem dX10_kindHere_27 : decode cX10_kindHere 27 = .ok (.bipush 114, 2) := by decide +kernel
theorem dX10_kindHere_29 : decode cX10_kindHere 29 = .ok (.bipush 101, 2) := by decide +kernel
theorem dX10_kindHere_31 : decode cX10_kindHere 31 = .ok (.bipush 100, 2) := by decide +kernel
theorem dX10_kindHere_33 : decode cX10_kindHere 33 = .ok (.iconst 0, 1) := by decide +kernel
theorem dX10_kindHere_34 : decode cX10_kindHere 34 = .ok (.invokevirtual 277, 3) := by decide +kernel
theorem dX10_kindHere_37 : decode cX10_kindHere 37 = .ok (.ifCond .eq 7, 3) := by decide +kernel
theorem dX10_kindHere_40 : decode cX10_kindHere 40 = .ok (.iconst 1, 1) := by decide +kernel
theorem dX10_kindHere_41 : decode cX10_kindHere 41 = .ok (.goto 124, 3) := by decide +kernel
theorem dX10_kindHere_44 : decode cX10_kindHere 44 = .ok (.aload_n 0, 1) := by decide +kernel
theorem dX10_kindHere_45 : decode cX10_kindHere 45 = .ok (.bipush 114, 2) := by decide +kernel
theorem dX10_kindHere_47 : decode cX10_kindHere 47 = .ok (.bipush 101, 2) := by decide +kernel
theorem dX10_kindHere_49 : decode cX10_kindHere 49 = .ok (.bipush 112, 2) := by decide +kernel
theorem dX10_kindHere_51 : decode cX10_kindHere 51 = .ok (.bipush 111, 2) := by decide +kernel
theorem dX10_kindHere_53 : decode cX10_kindHere 53 = .ok (.bipush 114, 2) := by decide +kernel
theorem dX10_kindHere_55 : decode cX10_kindHere 55 = .ok (.bipush 116, 2) := by decide +kernel
theorem dX10_kindHere_57 : decode cX10_kindHere 57 = .ok (.iconst 0, 1) := by decide +kernel
theorem dX10_kindHere_58 : decode cX10_kindHere 58 = .ok (.invokevirtual 277, 3) := by decide +kernel
theorem dX10_kindHere_61 : decode cX10_kindHere 61 = .ok (.ifCond .eq 7, 3) := by decide +kernel
theorem dX10_kindHere_64 : decode cX10_kindHere 64 = .ok (.iconst 2, 1) := by decide +kernel
theorem dX10_kindHere_65 : decode cX10_kindHere 65 = .ok (.goto 100, 3) := by decide +kernel
theorem dX10_kindHere_68 : decode cX10_kindHere 68 = .ok (.aload_n 0, 1) := by decide +kernel
theorem dX10_kindHere_69 : decode cX10_kindHere 69 = .ok (.bipush 99, 2) := by decide +kernel
theorem dX10_kindHere_71 : decode cX10_kindHere 71 = .ok (.bipush 111, 2) := by decide +kernel
theorem dX10_kindHere_73 : decode cX10_kindHere 73 = .ok (.bipush 117, 2) := by decide +kernel
theorem dX10_kindHere_75 : decode cX10_kindHere 75 = .ok (.bipush 110, 2) := by decide +kernel
theorem dX10_kindHere_77 : decode cX10_kindHere 77 = .ok (.bipush 116, 2) := by decide +kernel
theorem dX10_kindHere_79 : decode cX10_kindHere 79 = .ok (.bipush 101, 2) := by decide +kernel
theorem dX10_kindHere_81 : decode cX10_kindHere 81 = .ok (.bipush 100, 2) := by decide +kernel
theorem dX10_kindHere_83 : decode cX10_kindHere 83 = .ok (.invokevirtual 277, 3) := by decide +kernel
theorem dX10_kindHere_86 : decode cX10_kindHere 86 = .ok (.ifCond .eq 7, 3) := by decide +kernel
theorem dX10_kindHere_89 : decode cX10_kindHere 89 = .ok (.iconst 3, 1) := by decide +kernel
theorem dX10_kindHere_90 : decode cX10_kindHere 90 = .ok (.goto 75, 3) := by decide +kernel
theorem dX10_kindHere_93 : decode cX10_kindHere 93 = .ok (.aload_n 0, 1) := by decide +kernel
theorem dX10_kindHere_94 : decode cX10_kindHere 94 = .ok (.bipush 110, 2) := by decide +kernel
theorem dX10_kindHere_96 : decode cX10_kindHere 96 = .ok (.bipush 101, 2) := by decide +kernel
theorem dX10_kindHere_98 : decode cX10_kindHere 98 = .ok (.bipush 97, 2) := by decide +kernel
theorem dX10_kindHere_100 : decode cX10_kindHere 100 = .ok (.bipush 114, 2) := by decide +kernel
theorem dX10_kindHere_102 : decode cX10_kindHere 102 = .ok (.iconst 0, 1) := by decide +kernel
theorem dX10_kindHere_103 : decode cX10_kindHere 103 = .ok (.iconst 0, 1) := by decide +kernel
theorem dX10_kindHere_104 : decode cX10_kindHere 104 = .ok (.iconst 0, 1) := by decide +kernel
theorem dX10_kindHere_105 : decode cX10_kindHere 105 = .ok (.invokevirtual 277, 3) := by decide +kernel
theorem dX10_kindHere_108 : decode cX10_kindHere 108 = .ok (.ifCond .eq 7, 3) := by decide +kernel
theorem dX10_kindHere_111 : decode cX10_kindHere 111 = .ok (.iconst 4, 1) := by decide +kernel
theorem dX10_kindHere_112 : decode cX10_kindHere 112 = .ok (.goto 53, 3) := by decide +kernel
theorem dX10_kindHere_115 : decode cX10_kindHere 115 = .ok (.aload_n 0, 1) := by decide +kernel
theorem dX10_kindHere_116 : decode cX10_kindHere 116 = .ok (.bipush 119, 2) := by decide +kernel
theorem dX10_kindHere_118 : decode cX10_kindHere 118 = .ok (.bipush 101, 2) := by decide +kernel
theorem dX10_kindHere_120 : decode cX10_kindHere 120 = .ok (.bipush 101, 2) := by decide +kernel
theorem dX10_kindHere_122 : decode cX10_kindHere 122 = .ok (.bipush 107, 2) := by decide +kernel
theorem dX10_kindHere_124 : decode cX10_kindHere 124 = .ok (.bipush 108, 2) := by decide +kernel
theorem dX10_kindHere_126 : decode cX10_kindHere 126 = .ok (.bipush 121, 2) := by decide +kernel
theorem dX10_kindHere_128 : decode cX10_kindHere 128 = .ok (.iconst 0, 1) := by decide +kernel
theorem dX10_kindHere_129 : decode cX10_kindHere 129 = .ok (.invokevirtual 277, 3) := by decide +kernel
theorem dX10_kindHere_132 : decode cX10_kindHere 132 = .ok (.ifCond .eq 7, 3) := by decide +kernel
theorem dX10_kindHere_135 : decode cX10_kindHere 135 = .ok (.iconst 5, 1) := by decide +kernel
theorem dX10_kindHere_136 : decode cX10_kindHere 136 = .ok (.goto 29, 3) := by decide +kernel
theorem dX10_kindHere_139 : decode cX10_kindHere 139 = .ok (.aload_n 0, 1) := by decide +kernel
theorem dX10_kindHere_140 : decode cX10_kindHere 140 = .ok (.bipush 115, 2) := by decide +kernel
theorem dX10_kindHere_142 : decode cX10_kindHere 142 = .ok (.bipush 116, 2) := by decide +kernel
theorem dX10_kindHere_144 : decode cX10_kindHere 144 = .ok (.bipush 114, 2) := by decide +kernel
theorem dX10_kindHere_146 : decode cX10_kindHere 146 = .ok (.bipush 105, 2) := by decide +kernel
theorem dX10_kindHere_148 : decode cX10_kindHere 148 = .ok (.bipush 99, 2) := by decide +kernel
theorem dX10_kindHere_150 : decode cX10_kindHere 150 = .ok (.bipush 116, 2) := by decide +kernel
theorem dX10_kindHere_152 : decode cX10_kindHere 152 = .ok (.iconst 0, 1) := by decide +kernel
theorem dX10_kindHere_153 : decode cX10_kindHere 153 = .ok (.invokevirtual 277, 3) := by decide +kernel
theorem dX10_kindHere_156 : decode cX10_kindHere 156 = .ok (.ifCond .eq 8, 3) := by decide +kernel
theorem dX10_kindHere_159 : decode cX10_kindHere 159 = .ok (.bipush 6, 2) := by decide +kernel
theorem dX10_kindHere_161 : decode cX10_kindHere 161 = .ok (.goto 4, 3) := by decide +kernel
theorem dX10_kindHere_164 : decode cX10_kindHere 164 = .ok (.iconst (-1), 1) := by decide +kernel
theorem dX10_kindHere_165 : decode cX10_kindHere 165 = .ok (.ireturn, 1) := by decide +kernel
theorem dX10_spanItem_0 : decode cX10_spanItem 0 = .ok (.aload_n 0, 1) := by decide +kernel
theorem dX10_spanItem_1 : decode cX10_spanItem 1 = .ok (.iconst 1, 1) := by decide +kernel
theorem dX10_spanItem_2 : decode cX10_spanItem 2 = .ok (.invokevirtual 273, 3) := by decide +kernel
theorem dX10_spanItem_5 : decode cX10_spanItem 5 = .ok (.aload_n 0, 1) := by decide +kernel
theorem dX10_spanItem_6 : decode cX10_spanItem 6 = .ok (.iconst 0, 1) := by decide +kernel
theorem dX10_spanItem_7 : decode cX10_spanItem 7 = .ok (.iload_n 2, 1) := by decide +kernel
theorem dX10_spanItem_8 : decode cX10_spanItem 8 = .ok (.ifCond .ne 8, 3) := by decide +kernel
theorem dX10_spanItem_11 : decode cX10_spanItem 11 = .ok (.bipush 23, 2) := by decide +kernel
theorem dX10_spanItem_13 : decode cX10_spanItem 13 = .ok (.goto 5, 3) := by decide +kernel
theorem dX10_spanItem_16 : decode cX10_spanItem 16 = .ok (.bipush 29, 2) := by decide +kernel
theorem dX10_spanItem_18 : decode cX10_spanItem 18 = .ok (.invokevirtual 281, 3) := by decide +kernel
theorem dX10_spanItem_21 : decode cX10_spanItem 21 = .ok (.aload_n 0, 1) := by decide +kernel
theorem dX10_spanItem_22 : decode cX10_spanItem 22 = .ok (.getfield 270, 3) := by decide +kernel
theorem dX10_spanItem_25 : decode cX10_spanItem 25 = .ok (.istore_n 3, 1) := by decide +kernel
theorem dX10_spanItem_26 : decode cX10_spanItem 26 = .ok (.aload_n 0, 1) := by decide +kernel
theorem dX10_spanItem_27 : decode cX10_spanItem 27 = .ok (.iload_n 3, 1) := by decide +kernel
theorem dX10_spanItem_28 : decode cX10_spanItem 28 = .ok (.iload_n 2, 1) := by decide +kernel
theorem dX10_spanItem_29 : decode cX10_spanItem 29 = .ok (.ifCond .ne 8, 3) := by decide +kernel
theorem dX10_spanItem_32 : decode cX10_spanItem 32 = .ok (.bipush 23, 2) := by decide +kernel
theorem dX10_spanItem_34 : decode cX10_spanItem 34 = .ok (.goto 5, 3) := by decide +kernel
theorem dX10_spanItem_37 : decode cX10_spanItem 37 = .ok (.bipush 29, 2) := by decide +kernel
theorem dX10_spanItem_39 : decode cX10_spanItem 39 = .ok (.invokevirtual 281, 3) := by decide +kernel
theorem dX10_spanItem_42 : decode cX10_spanItem 42 = .ok (.aload_n 0, 1) := by decide +kernel
theorem dX10_spanItem_43 : decode cX10_spanItem 43 = .ok (.getfield 261, 3) := by decide +kernel
theorem dX10_spanItem_46 : decode cX10_spanItem 46 = .ok (.ifCond .ne 48, 3) := by decide +kernel
theorem dX10_spanItem_49 : decode cX10_spanItem 49 = .ok (.aload_n 0, 1) := by decide +kernel
theorem dX10_spanItem_50 : decode cX10_spanItem 50 = .ok (.getfield 7, 3) := by decide +kernel
theorem dX10_spanItem_53 : decode cX10_spanItem 53 = .ok (.sipush 190, 3) := by decide +kernel
theorem dX10_spanItem_56 : decode cX10_spanItem 56 = .ok (.bipush 7, 2) := by decide +kernel
theorem dX10_spanItem_58 : decode cX10_spanItem 58 = .ok (.iload_n 1, 1) := by decide +kernel
theorem dX10_spanItem_59 : decode cX10_spanItem 59 = .ok (.imul, 1) := by decide +kernel
theorem dX10_spanItem_60 : decode cX10_spanItem 60 = .ok (.iadd, 1) := by decide +kernel
theorem dX10_spanItem_61 : decode cX10_spanItem 61 = .ok (.iconst 3, 1) := by decide +kernel
theorem dX10_spanItem_62 : decode cX10_spanItem 62 = .ok (.iadd, 1) := by decide +kernel
theorem dX10_spanItem_63 : decode cX10_spanItem 63 = .ok (.iconst 2, 1) := by decide +kernel
theorem dX10_spanItem_64 : decode cX10_spanItem 64 = .ok (.iload_n 2, 1) := by decide +kernel
theorem dX10_spanItem_65 : decode cX10_spanItem 65 = .ok (.imul, 1) := by decide +kernel
theorem dX10_spanItem_66 : decode cX10_spanItem 66 = .ok (.iadd, 1) := by decide +kernel
theorem dX10_spanItem_67 : decode cX10_spanItem 67 = .ok (.iload_n 3, 1) := by decide +kernel
theorem dX10_spanItem_68 : decode cX10_spanItem 68 = .ok (.iastore, 1) := by decide +kernel
theorem dX10_spanItem_69 : decode cX10_spanItem 69 = .ok (.aload_n 0, 1) := by decide +kernel
theorem dX10_spanItem_70 : decode cX10_spanItem 70 = .ok (.getfield 7, 3) := by decide +kernel
theorem dX10_spanItem_73 : decode cX10_spanItem 73 = .ok (.sipush 190, 3) := by decide +kernel
theorem dX10_spanItem_76 : decode cX10_spanItem 76 = .ok (.bipush 7, 2) := by decide +kernel
theorem dX10_spanItem_78 : decode cX10_spanItem 78 = .ok (.iload_n 1, 1) := by decide +kernel
theorem dX10_spanItem_79 : decode cX10_spanItem 79 = .ok (.imul, 1) := by decide +kernel
theorem dX10_spanItem_80 : decode cX10_spanItem 80 = .ok (.iadd, 1) := by decide +kernel
theorem dX10_spanItem_81 : decode cX10_spanItem 81 = .ok (.iconst 3, 1) := by decide +kernel
theorem dX10_spanItem_82 : decode cX10_spanItem 82 = .ok (.iadd, 1) := by decide +kernel
theorem dX10_spanItem_83 : decode cX10_spanItem 83 = .ok (.iconst 2, 1) := by decide +kernel
theorem dX10_spanItem_84 : decode cX10_spanItem 84 = .ok (.iload_n 2, 1) := by decide +kernel
theorem dX10_spanItem_85 : decode cX10_spanItem 85 = .ok (.imul, 1) := by decide +kernel
theorem dX10_spanItem_86 : decode cX10_spanItem 86 = .ok (.iadd, 1) := by decide +kernel
theorem dX10_spanItem_87 : decode cX10_spanItem 87 = .ok (.iconst 1, 1) := by decide +kernel
theorem dX10_spanItem_88 : decode cX10_spanItem 88 = .ok (.iadd, 1) := by decide +kernel
theorem dX10_spanItem_89 : decode cX10_spanItem 89 = .ok (.aload_n 0, 1) := by decide +kernel
theorem dX10_spanItem_90 : decode cX10_spanItem 90 = .ok (.getfield 270, 3) := by decide +kernel
theorem dX10_spanItem_93 : decode cX10_spanItem 93 = .ok (.iastore, 1) := by decide +kernel
theorem dX10_spanItem_94 : decode cX10_spanItem 94 = .ok (.return_, 1) := by decide +kernel
theorem dX10_numberHere_0 : decode cX10_numberHere 0 = .ok (.iconst 0, 1) := by decide +kernel
theorem dX10_numberHere_1 : decode cX10_numberHere 1 = .ok (.istore_n 1, 1) := by decide +kernel
theorem dX10_numberHere_2 : decode cX10_numberHere 2 = .ok (.aload_n 0, 1) := by decide +kernel
theorem dX10_numberHere_3 : decode cX10_numberHere 3 = .ok (.getfield 249, 3) := by decide +kernel
theorem dX10_numberHere_6 : decode cX10_numberHere 6 = .ok (.istore_n 2, 1) := by decide +kernel
theorem dX10_numberHere_7 : decode cX10_numberHere 7 = .ok (.iload_n 2, 1) := by decide +kernel
theorem dX10_numberHere_8 : decode cX10_numberHere 8 = .ok (.aload_n 0, 1) := by decide +kernel
theorem dX10_numberHere_9 : decode cX10_numberHere 9 = .ok (.getfield 246, 3) := by decide +kernel
theorem dX10_numberHere_12 : decode cX10_numberHere 12 = .ok (.if_icmp .ge 35, 3) := by decide +kernel
theorem dX10_numberHere_15 : decode cX10_numberHere 15 = .ok (.iload_n 1, 1) := by decide +kernel
theorem dX10_numberHere_16 : decode cX10_numberHere 16 = .ok (.sipush 9999, 3) := by decide +kernel
theorem dX10_numberHere_19 : decode cX10_numberHere 19 = .ok (.if_icmp .le 7, 3) := by decide +kernel
theorem dX10_numberHere_22 : decode cX10_numberHere 22 = .ok (.iload_n 1, 1) := by decide +kernel
theorem dX10_numberHere_23 : decode cX10_numberHere 23 = .ok (.goto 17, 3) := by decide +kernel
theorem dX10_numberHere_26 : decode cX10_numberHere 26 = .ok (.bipush 10, 2) := by decide +kernel
theorem dX10_numberHere_28 : decode cX10_numberHere 28 = .ok (.iload_n 1, 1) := by decide +kernel
theorem dX10_numberHere_29 : decode cX10_numberHere 29 = .ok (.imul, 1) := by decide +kernel
theorem dX10_numberHere_30 : decode cX10_numberHere 30 = .ok (.aload_n 0, 1) := by decide +kernel
theorem dX10_numberHere_31 : decode cX10_numberHere 31 = .ok (.getfield 53, 3) := by decide +kernel
theorem dX10_numberHere_34 : decode cX10_numberHere 34 = .ok (.iload_n 2, 1) := by decide +kernel
theorem dX10_numberHere_35 : decode cX10_numberHere 35 = .ok (.iaload, 1) := by decide +kernel
theorem dX10_numberHere_36 : decode cX10_numberHere 36 = .ok (.iadd, 1) := by decide +kernel
theorem dX10_numberHere_37 : decode cX10_numberHere 37 = .ok (.bipush 48, 2) := by decide +kernel
theorem dX10_numberHere_39 : decode cX10_numberHere 39 = .ok (.isub, 1) := by decide +kernel
theorem dX10_numberHere_40 : decode cX10_numberHere 40 = .ok (.istore_n 1, 1) := by decide +kernel
theorem dX10_numberHere_41 : decode cX10_numberHere 41 = .ok (.iinc 2 1, 3) := by decide +kernel
theorem dX10_numberHere_44 : decode cX10_numberHere 44 = .ok (.goto (-37), 3) := by decide +kernel
theorem dX10_numberHere_47 : decode cX10_numberHere 47 = .ok (.aload_n 0, 1) := by decide +kernel
theorem dX10_numberHere_48 : decode cX10_numberHere 48 = .ok (.aload_n 0, 1) := by decide +kernel
theorem dX10_numberHere_49 : decode cX10_numberHere 49 = .ok (.getfield 249, 3) := by decide +kernel
theorem dX10_numberHere_52 : decode cX10_numberHere 52 = .ok (.invokevirtual 252, 3) := by decide +kernel
theorem dX10_numberHere_55 : decode cX10_numberHere 55 = .ok (.invokestatic 258, 3) := by decide +kernel
theorem dX10_numberHere_58 : decode cX10_numberHere 58 = .ok (.ifCond .eq 7, 3) := by decide +kernel
theorem dX10_numberHere_61 : decode cX10_numberHere 61 = .ok (.iload_n 1, 1) := by decide +kernel
theorem dX10_numberHere_62 : decode cX10_numberHere 62 = .ok (.goto 4, 3) := by decide +kernel
theorem dX10_numberHere_65 : decode cX10_numberHere 65 = .ok (.iconst (-1), 1) := by decide +kernel
theorem dX10_numberHere_66 : decode cX10_numberHere 66 = .ok (.ireturn, 1) := by decide +kernel
theorem dX10_termItem_0 : decode cX10_termItem 0 = .ok (.aload_n 0, 1) := by decide +kernel
theorem dX10_termItem_1 : decode cX10_termItem 1 = .ok (.aload_n 0, 1) := by decide +kernel
theorem dX10_termItem_2 : decode cX10_termItem 2 = .ok (.getfield 7, 3) := by decide +kernel
theorem dX10_termItem_5 : decode cX10_termItem 5 = .ok (.sipush 189, 3) := by decide +kernel
theorem dX10_termItem_8 : decode cX10_termItem 8 = .ok (.iaload, 1) := by decide +kernel
theorem dX10_termItem_9 : decode cX10_termItem 9 = .ok (.bipush 12, 2) := by decide +kernel
theorem dX10_termItem_11 : decode cX10_termItem 11 = .ok (.if_icmp .ge 7, 3) := by decide +kernel
theorem dX10_termItem_14 : decode cX10_termItem 14 = .ok (.iconst 1, 1) := by decide +kernel
theorem dX10_termItem_15 : decode cX10_termItem 15 = .ok (.goto 4, 3) := by decide +kernel
theorem dX10_termItem_18 : decode cX10_termItem 18 = .ok (.iconst 0, 1) := by decide +kernel
theorem dX10_termItem_19 : decode cX10_termItem 19 = .ok (.invokevirtual 273, 3) := by decide +kernel
theorem dX10_termItem_22 : decode cX10_termItem 22 = .ok (.aload_n 0, 1) := by decide +kernel
theorem dX10_termItem_23 : decode cX10_termItem 23 = .ok (.getfield 261, 3) := by decide +kernel
theorem dX10_termItem_26 : decode cX10_termItem 26 = .ok (.ifCond .eq 4, 3) := by decide +kernel
theorem dX10_termItem_29 : decode cX10_termItem 29 = .ok (.return_, 1) := by decide +kernel
theorem dX10_termItem_30 : decode cX10_termItem 30 = .ok (.aload_n 0, 1) := by decide +kernel
theorem dX10_termItem_31 : decode cX10_termItem 31 = .ok (.invokevirtual 283, 3) := by decide +kernel
theorem dX10_termItem_34 : decode cX10_termItem 34 = .ok (.istore_n 2, 1) := by decide +kernel
theorem dX10_termItem_35 : decode cX10_termItem 35 = .ok (.aload_n 0, 1) := by decide +kernel
theorem dX10_termItem_36 : decode cX10_termItem 36 = .ok (.iload_n 2, 1) := by decide +kernel
theorem dX10_termItem_37 : decode cX10_termItem 37 = .ok (.invokestatic 98, 3) := by decide +kernel
theorem dX10_termItem_40 : decode cX10_termItem 40 = .ok (.ifCond .eq 16, 3) := by decide +kernel
theorem dX10_termItem_43 : decode cX10_termItem 43 = .ok (.aload_n 0, 1) := by decide +kernel
theorem dX10_termItem_44 : decode cX10_termItem 44 = .ok (.iload_n 2, 1) := by decide +kernel
theorem dX10_termItem_45 : decode cX10_termItem 45 = .ok (.invokevirtual 134, 3) := by decide +kernel
theorem dX10_termItem_48 : decode cX10_termItem 48 = .ok (.iconst 5, 1) := by decide +kernel
theorem dX10_termItem_49 : decode cX10_termItem 49 = .ok (.if_icmp .ge 7, 3) := by decide +kernel
theorem dX10_termItem_52 : decode cX10_termItem 52 = .ok (.iconst 1, 1) := by decide +kernel
theorem dX10_termItem_53 : decode cX10_termItem 53 = .ok (.goto 4, 3) := by decide +kernel
theorem dX10_termItem_56 : decode cX10_termItem 56 = .ok (.iconst 0, 1) := by decide +kernel
theorem dX10_termItem_57 : decode cX10_termItem 57 = .ok (.invokevirtual 273, 3) := by decide +kernel
theorem dX10_termItem_60 : decode cX10_termItem 60 = .ok (.aload_n 0, 1) := by decide +kernel
theorem dX10_termItem_61 : decode cX10_termItem 61 = .ok (.aload_n 0, 1) := by decide +kernel
theorem dX10_termItem_62 : decode cX10_termItem 62 = .ok (.bipush 97, 2) := by decide +kernel
theorem dX10_termItem_64 : decode cX10_termItem 64 = .ok (.bipush 116, 2) := by decide +kernel
theorem dX10_termItem_66 : decode cX10_termItem 66 = .ok (.iconst 0, 1) := by decide +kernel
theorem dX10_termItem_67 : decode cX10_termItem 67 = .ok (.iconst 0, 1) := by decide +kernel
theorem dX10_termItem_68 : decode cX10_termItem 68 = .ok (.iconst 0, 1) := by decide +kernel
theorem dX10_termItem_69 : decode cX10_termItem 69 = .ok (.iconst 0, 1) := by decide +kernel
theorem dX10_termItem_70 : decode cX10_termItem 70 = .ok (.iconst 0, 1) := by decide +kernel
theorem dX10_termItem_71 : decode cX10_termItem 71 = .ok (.invokevirtual 277, 3) := by decide +kernel
theorem dX10_termItem_74 : decode cX10_termItem 74 = .ok (.invokevirtual 273, 3) := by decide +kernel
theorem dX10_termItem_77 : decode cX10_termItem 77 = .ok (.aload_n 0, 1) := by decide +kernel
theorem dX10_termItem_78 : decode cX10_termItem 78 = .ok (.iconst 0, 1) := by decide +kernel
theorem dX10_termItem_79 : decode cX10_termItem 79 = .ok (.bipush 7, 2) := by decide +kernel
theorem dX10_termItem_81 : decode cX10_termItem 81 = .ok (.invokevirtual 281, 3) := by decide +kernel
theorem dX10_termItem_84 : decode cX10_termItem 84 = .ok (.aload_n 0, 1) := by decide +kernel
theorem dX10_termItem_85 : decode cX10_termItem 85 = .ok (.getfield 261, 3) := by decide +kernel
theorem dX10_termItem_88 : decode cX10_termItem 88 = .ok (.ifCond .eq 4, 3) := by decide +kernel
theorem dX10_termItem_91 : decode cX10_termItem 91 = .ok (.return_, 1) := by decide +kernel
theorem dX10_termItem_92 : decode cX10_termItem 92 = .ok (.aload_n 0, 1) := by decide +kernel
theorem dX10_termItem_93 : decode cX10_termItem 93 = .ok (.iload_n 1, 1) := by decide +kernel
theorem dX10_termItem_94 : decode cX10_termItem 94 = .ok (.iload_n 2, 1) := by decide +kernel
theorem dX10_termItem_95 : decode cX10_termItem 95 = .ok (.aload_n 0, 1) := by decide +kernel
theorem dX10_termItem_96 : decode cX10_termItem 96 = .ok (.getfield 270, 3) := by decide +kernel
theorem dX10_termItem_99 : decode cX10_termItem 99 = .ok (.invokevirtual 142, 3) := by decide +kernel
theorem dX10_termItem_102 : decode cX10_termItem 102 = .ok (.istore_n 3, 1) := by decide +kernel
theorem dX10_termItem_103 : decode cX10_termItem 103 = .ok (.aload_n 0, 1) := by decide +kernel
theorem dX10_termItem_104 : decode cX10_termItem 104 = .ok (.bipush 104, 2) := by decide +kernel
theorem dX10_termItem_106 : decode cX10_termItem 106 = .ok (.bipush 111, 2) := by decide +kernel
theorem dX10_termItem_108 : decode cX10_termItem 108 = .ok (.bipush 117, 2) := by decide +kernel
theorem dX10_termItem_110 : decode cX10_termItem 110 = .ok (.bipush 114, 2) := by decide +kernel
theorem dX10_termItem_112 : decode cX10_termItem 112 = .ok (.bipush 115, 2) := by decide +kernel
theorem dX10_termItem_114 : decode cX10_termItem 114 = .ok (.iconst 0, 1) := by decide +kernel
theorem dX10_termItem_115 : decode cX10_termItem 115 = .ok (.iconst 0, 1) := by decide +kernel
theorem dX10_termItem_116 : decode cX10_termItem 116 = .ok (.invokevirtual 277, 3) := by decide +kernel
theorem dX10_termItem_119 : decode cX10_termItem 119 = .ok (.ifCond .eq 9, 3) := by decide +kernel
theorem dX10_termItem_122 : decode cX10_termItem 122 = .ok (.aload_n 0, 1) := by decide +kernel
theorem dX10_termItem_123 : decode cX10_termItem 123 = .ok (.iload_n 3, 1) := by decide +kernel
theorem dX10_termItem_124 : decode cX10_termItem 124 = .ok (.iconst 0, 1) := by decide +kernel
theorem dX10_termItem_125 : decode cX10_termItem 125 = .ok (.invokevirtual 286, 3) := by decide +kernel
theorem dX10_termItem_128 : decode cX10_termItem 128 = .ok (.aload_n 0, 1) := by decide +kernel
theorem dX10_termItem_129 : decode cX10_termItem 129 = .ok (.bipush 100, 2) := by decide +kernel
theorem dX10_termItem_131 : decode cX10_termItem 131 = .ok (.bipush 97, 2) := by decide +kernel
theorem dX10_termItem_133 : decode cX10_termItem 133 = .ok (.bipush 121, 2) := by decide +kernel
theorem dX10_termItem_135 : decode cX10_termItem 135 = .ok (.bipush 115, 2) := by decide +kernel
theorem dX10_termItem_137 : decode cX10_termItem 137 = .ok (.iconst 0, 1) := by decide +kernel
theorem dX10_termItem_138 : decode cX10_termItem 138 = .ok (.iconst 0, 1) := by decide +kernel
theorem dX10_termItem_139 : decode cX10_termItem 139 = .ok (.iconst 0, 1) := by decide +kernel
theorem dX10_termItem_140 : decode cX10_termItem 140 = .ok (.invokevirtual 277, 3) := by decide +kernel
theorem dX10_termItem_143 : decode cX10_termItem 143 = .ok (.ifCond .eq 9, 3) := by decide +kernel
theorem dX10_termItem_146 : decode cX10_termItem 146 = .ok (.aload_n 0, 1) := by decide +kernel
theorem dX10_termItem_147 : decode cX10_termItem 147 = .ok (.iload_n 3, 1) := by decide +kernel
theorem dX10_termItem_148 : decode cX10_termItem 148 = .ok (.iconst 1, 1) := by decide +kernel
theorem dX10_termItem_149 : decode cX10_termItem 149 = .ok (.invokevirtual 286, 3) := by decide +kernel
theorem dX10_termItem_152 : decode cX10_termItem 152 = .ok (.return_, 1) := by decide +kernel
theorem dX10_item_0 : decode cX10_item 0 = .ok (.aload_n 0, 1) := by decide +kernel
theorem dX10_item_1 : decode cX10_item 1 = .ok (.invokevirtual 289, 3) := by decide +kernel
theorem dX10_item_4 : decode cX10_item 4 = .ok (.istore_n 1, 1) := by decide +kernel
theorem dX10_item_5 : decode cX10_item 5 = .ok (.iload_n 1, 1) := by decide +kernel
theorem dX10_item_6 : decode cX10_item 6 = .ok (.ifCond .lt 11, 3) := by decide +kernel
theorem dX10_item_9 : decode cX10_item 9 = .ok (.aload_n 0, 1) := by decide +kernel
theorem dX10_item_10 : decode cX10_item 10 = .ok (.iload_n 1, 1) := by decide +kernel
theorem dX10_item_11 : decode cX10_item 11 = .ok (.invokevirtual 292, 3) := by decide +kernel
theorem dX10_item_14 : decode cX10_item 14 = .ok (.goto 149, 3) := by decide +kernel
theorem dX10_item_17 : decode cX10_item 17 = .ok (.aload_n 0, 1) := by decide +kernel
theorem dX10_item_18 : decode cX10_item 18 = .ok (.bipush 114, 2) := by decide +kernel
theorem dX10_item_20 : decode cX10_item 20 = .ok (.bipush 111, 2) := by decide +kernel
theorem dX10_item_22 : decode cX10_item 22 = .ok (.bipush 97, 2) := by decide +kernel
theorem dX10_item_24 : decode cX10_item 24 = .ok (.bipush 100, 2) := by decide +kernel
theorem dX10_item_26 : decode cX10_item 26 = .ok (.iconst 0, 1) := by decide +kernel
theorem dX10_item_27 : decode cX10_item 27 = .ok (.iconst 0, 1) := by decide +kernel
theorem dX10_item_28 : decode cX10_item 28 = .ok (.iconst 0, 1) := by decide +kernel
theorem dX10_item_29 : decode cX10_item 29 = .ok (.invokevirtual 277, 3) := by decide +kernel
theorem dX10_item_32 : decode cX10_item 32 = .ok (.ifCond .eq 72, 3) := by decide +kernel
theorem dX10_item_35 : decode cX10_item 35 = .ok (.aload_n 0, 1) := by decide +kernel
theorem dX10_item_36 : decode cX10_item 36 = .ok (.iconst 1, 1) := by decide +kernel
theorem dX10_item_37 : decode cX10_item 37 = .ok (.invokevirtual 273, 3) := by decide +kernel
theorem dX10_item_40 : decode cX10_item 40 = .ok (.aload_n 0, 1) := by decide +kernel
theorem dX10_item_41 : decode cX10_item 41 = .ok (.iconst 0, 1) := by decide +kernel
theorem dX10_item_42 : decode cX10_item 42 = .ok (.bipush 7, 2) := by decide +kernel
theorem dX10_item_44 : decode cX10_item 44 = .ok (.invokevirtual 281, 3) := by decide +kernel
theorem dX10_item_47 : decode cX10_item 47 = .ok (.aload_n 0, 1) := by decide +kernel
theorem dX10_item_48 : decode cX10_item 48 = .ok (.getfield 270, 3) := by decide +kernel
theorem dX10_item_51 : decode cX10_item 51 = .ok (.istore_n 2, 1) := by decide +kernel
theorem dX10_item_52 : decode cX10_item 52 = .ok (.aload_n 0, 1) := by decide +kernel
theorem dX10_item_53 : decode cX10_item 53 = .ok (.getfield 261, 3) := by decide +kernel
theorem dX10_item_56 : decode cX10_item 56 = .ok (.ifCond .ne 45, 3) := by decide +kernel
theorem dX10_item_59 : decode cX10_item 59 = .ok (.aload_n 0, 1) := by decide +kernel
theorem dX10_item_60 : decode cX10_item 60 = .ok (.invokevirtual 283, 3) := by decide +kernel
theorem dX10_item_63 : decode cX10_item 63 = .ok (.istore_n 3, 1) := by decide +kernel
theorem dX10_item_64 : decode cX10_item 64 = .ok (.aload_n 0, 1) := by decide +kernel
theorem dX10_item_65 : decode cX10_item 65 = .ok (.iload_n 3, 1) := by decide +kernel
theorem dX10_item_66 : decode cX10_item 66 = .ok (.invokestatic 82, 3) := by decide +kernel
theorem dX10_item_69 : decode cX10_item 69 = .ok (.ifCond .eq 12, 3) := by decide +kernel
theorem dX10_item_72 : decode cX10_item 72 = .ok (.iload_n 3, 1) := by decide +kernel
theorem dX10_item_73 : decode cX10_item 73 = .ok (.iload_n 2, 1) := by decide +kernel
theorem dX10_item_74 : decode cX10_item 74 = .ok (.if_icmp .eq 7, 3) := by decide +kernel
theorem dX10_item_77 : decode cX10_item 77 = .ok (.iconst 1, 1) := by decide +kernel
theorem dX10_item_78 : decode cX10_item 78 = .ok (.goto 4, 3) := by decide +kernel
theorem dX10_item_81 : decode cX10_item 81 = .ok (.iconst 0, 1) := by decide +kernel
theorem dX10_item_82 : decode cX10_item 82 = .ok (.invokevirtual 273, 3) := by decide +kernel
theorem dX10_item_85 : decode cX10_item 85 = .ok (.aload_n 0, 1) := by decide +kernel
theorem dX10_item_86 : decode cX10_item 86 = .ok (.getfield 261, 3) := by decide +kernel
theorem dX10_item_89 : decode cX10_item 89 = .ok (.ifCond .ne 12, 3) := by decide +kernel
theorem dX10_item_92 : decode cX10_item 92 = .ok (.aload_n 0, 1) := by decide +kernel
theorem dX10_item_93 : decode cX10_item 93 = .ok (.iload_n 2, 1) := by decide +kernel
theorem dX10_item_94 : decode cX10_item 94 = .ok (.iload_n 3, 1) := by decide +kernel
theorem dX10_item_95 : decode cX10_item 95 = .ok (.iconst 1, 1) := by decide +kernel
theorem dX10_item_96 : decode cX10_item 96 = .ok (.invokevirtual 296, 3) := by decide +kernel
theorem dX10_item_99 : decode cX10_item 99 = .ok (.istore 4, 2) := by decide +kernel
theorem dX10_item_101 : decode cX10_item 101 = .ok (.goto 62, 3) := by decide +kernel
theorem dX10_item_104 : decode cX10_item 104 = .ok (.aload_n 0, 1) := by decide +kernel
theorem dX10_item_105 : decode cX10_item 105 = .ok (.aload_n 0, 1) := by decide +kernel
theorem dX10_item_106 : decode cX10_item 106 = .ok (.bipush 98, 2) := by decide +kernel
theorem dX10_item_108 : decode cX10_item 108 = .ok (.bipush 97, 2) := by decide +kernel
theorem dX10_item_110 : decode cX10_item 110 = .ok (.bipush 105, 2) := by decide +kernel
theorem dX10_item_112 : decode cX10_item 112 = .ok (.bipush 108, 2) := by decide +kernel
theorem dX10_item_114 : decode cX10_item 114 = .ok (.iconst 0, 1) := by decide +kernel
theorem dX10_item_115 : decode cX10_item 115 = .ok (.iconst 0, 1) := by decide +kernel
theorem dX10_item_116 : decode cX10_item 116 = .ok (.iconst 0, 1) := by decide +kernel
theorem dX10_item_117 : decode cX10_item 117 = .ok (.invokevirtual 277, 3) := by decide +kernel
theorem dX10_item_120 : decode cX10_item 120 = .ok (.invokevirtual 273, 3) := by decide +kernel
theorem dX10_item_123 : decode cX10_item 123 = .ok (.aload_n 0, 1) := by decide +kernel
theorem dX10_item_124 : decode cX10_item 124 = .ok (.iconst 0, 1) := by decide +kernel
theorem dX10_item_125 : decode cX10_item 125 = .ok (.iconst 5, 1) := by decide +kernel
theorem dX10_item_126 : decode cX10_item 126 = .ok (.invokevirtual 281, 3) := by decide +kernel
theorem dX10_item_129 : decode cX10_item 129 = .ok (.aload_n 0, 1) := by decide +kernel
theorem dX10_item_130 : decode cX10_item 130 = .ok (.getfield 270, 3) := by decide +kernel
theorem dX10_item_133 : decode cX10_item 133 = .ok (.istore_n 2, 1) := by decide +kernel
theorem dX10_item_134 : decode cX10_item 134 = .ok (.aload_n 0, 1) := by decide +kernel
theorem dX10_item_135 : decode cX10_item 135 = .ok (.iconst 0, 1) := by decide +kernel
theorem dX10_item_136 : decode cX10_item 136 = .ok (.sipush 9999, 3) := by decide +kernel
theorem dX10_item_139 : decode cX10_item 139 = .ok (.invokevirtual 281, 3) := by decide +kernel
theorem dX10_item_142 : decode cX10_item 142 = .ok (.aload_n 0, 1) := by decide +kernel
theorem dX10_item_143 : decode cX10_item 143 = .ok (.getfield 261, 3) := by decide +kernel
theorem dX10_item_146 : decode cX10_item 146 = .ok (.ifCond .ne 17, 3) := by decide +kernel
theorem dX10_item_149 : decode cX10_item 149 = .ok (.aload_n 0, 1) := by decide +kernel
theorem dX10_item_150 : decode cX10_item 150 = .ok (.getfield 7, 3) := by decide +kernel
theorem dX10_item_153 : decode cX10_item 153 = .ok (.sipush 325, 3) := by decide +kernel
theorem dX10_item_156 : decode cX10_item 156 = .ok (.iload_n 2, 1) := by decide +kernel
theorem dX10_item_157 : decode cX10_item 157 = .ok (.iadd, 1) := by decide +kernel
theorem dX10_item_158 : decode cX10_item 158 = .ok (.aload_n 0, 1) := by decide +kernel
theorem dX10_item_159 : decode cX10_item 159 = .ok (.getfield 270, 3) := by decide +kernel
theorem dX10_item_162 : decode cX10_item 162 = .ok (.iastore, 1) := by decide +kernel
theorem dX10_item_163 : decode cX10_item 163 = .ok (.return_, 1) := by decide +kernel
theorem dX10_puts_0 : decode cX10_puts 0 = .ok (.iconst 0, 1) := by decide +kernel
theorem dX10_puts_1 : decode cX10_puts 1 = .ok (.istore_n 1, 1) := by decide +kernel
theorem dX10_puts_2 : decode cX10_puts 2 = .ok (.iload_n 1, 1) := by decide +kernel
theorem dX10_puts_3 : decode cX10_puts 3 = .ok (.sipush 337, 3) := by decide +kernel
theorem dX10_puts_6 : decode cX10_puts 6 = .ok (.if_icmp .ge 21, 3) := by decide +kernel
theorem dX10_puts_9 : decode cX10_puts 9 = .ok (.aload_n 0, 1) := by decide +kernel
theorem dX10_puts_10 : decode cX10_puts 10 = .ok (.getfield 16, 3) := by decide +kernel
theorem dX10_puts_13 : decode cX10_puts 13 = .ok (.iload_n 1, 1) := by decide +kernel
theorem dX10_puts_14 : decode cX10_puts 14 = .ok (.aload_n 0, 1) := by decide +kernel
theorem dX10_puts_15 : decode cX10_puts 15 = .ok (.getfield 7, 3) := by decide +kernel
theorem dX10_puts_18 : decode cX10_puts 18 = .ok (.iload_n 1, 1) := by decide +kernel
theorem dX10_puts_19 : decode cX10_puts 19 = .ok (.iaload, 1) := by decide +kernel
theorem dX10_puts_20 : decode cX10_puts 20 = .ok (.iastore, 1) := by decide +kernel
theorem dX10_puts_21 : decode cX10_puts 21 = .ok (.iinc 1 1, 3) := by decide +kernel
theorem dX10_puts_24 : decode cX10_puts 24 = .ok (.goto (-22), 3) := by decide +kernel
theorem dX10_puts_27 : decode cX10_puts 27 = .ok (.return_, 1) := by decide +kernel
theorem dX10_text_0 : decode cX10_text 0 = .ok (.aload_n 0, 1) := by decide +kernel
theorem dX10_text_1 : decode cX10_text 1 = .ok (.invokevirtual 300, 3) := by decide +kernel
theorem dX10_text_4 : decode cX10_text 4 = .ok (.aload_n 0, 1) := by decide +kernel
theorem dX10_text_5 : decode cX10_text 5 = .ok (.iconst 0, 1) := by decide +kernel
theorem dX10_text_6 : decode cX10_text 6 = .ok (.putfield 246, 3) := by decide +kernel
theorem dX10_text_9 : decode cX10_text 9 = .ok (.aload_n 0, 1) := by decide +kernel
theorem dX10_text_10 : decode cX10_text 10 = .ok (.iconst 0, 1) := by decide +kernel
theorem dX10_text_11 : decode cX10_text 11 = .ok (.putfield 261, 3) := by decide +kernel
theorem dX10_text_14 : decode cX10_text 14 = .ok (.aload_n 0, 1) := by decide +kernel
theorem dX10_text_15 : decode cX10_text 15 = .ok (.invokevirtual 264, 3) := by decide +kernel
theorem dX10_text_18 : decode cX10_text 18 = .ok (.iconst 1, 1) := by decide +kernel
theorem dX10_text_19 : decode cX10_text 19 = .ok (.istore_n 1, 1) := by decide +kernel
theorem dX10_text_20 : decode cX10_text 20 = .ok (.aload_n 0, 1) := by decide +kernel
theorem dX10_text_21 : decode cX10_text 21 = .ok (.invokevirtual 303, 3) := by decide +kernel
theorem dX10_text_24 : decode cX10_text 24 = .ok (.aload_n 0, 1) := by decide +kernel
theorem dX10_text_25 : decode cX10_text 25 = .ok (.getfield 261, 3) := by decide +kernel
theorem dX10_text_28 : decode cX10_text 28 = .ok (.ifCond .ne 46, 3) := by decide +kernel
theorem dX10_text_31 : decode cX10_text 31 = .ok (.aload_n 0, 1) := by decide +kernel
theorem dX10_text_32 : decode cX10_text 32 = .ok (.getfield 249, 3) := by decide +kernel
theorem dX10_text_35 : decode cX10_text 35 = .ok (.aload_n 0, 1) := by decide +kernel
theorem dX10_text_36 : decode cX10_text 36 = .ok (.getfield 235, 3) := by decide +kernel
theorem dX10_text_39 : decode cX10_text 39 = .ok (.if_icmp .ge 35, 3) := by decide +kernel
theorem dX10_text_42 : decode cX10_text 42 = .ok (.aload_n 0, 1) := by decide +kernel
theorem dX10_text_43 : decode cX10_text 43 = .ok (.aload_n 0, 1) := by decide +kernel
theorem dX10_text_44 : decode cX10_text 44 = .ok (.aload_n 0, 1) := by decide +kernel
theorem dX10_text_45 : decode cX10_text 45 = .ok (.getfield 249, 3) := by decide +kernel
theorem dX10_text_48 : decode cX10_text 48 = .ok (.invokevirtual 252, 3) := by decide +kernel
theorem dX10_text_51 : decode cX10_text 51 = .ok (.bipush 59, 2) := by decide +kernel
theorem dX10_text_53 : decode cX10_text 53 = .ok (.if_icmp .ne 7, 3) := by decide +kernel
theorem dX10_text_56 : decode cX10_text 56 = .ok (.iconst 1, 1) := by decide +kernel
theorem dX10_text_57 : decode cX10_text 57 = .ok (.goto 4, 3) := by decide +kernel
theorem dX10_text_60 : decode cX10_text 60 = .ok (.iconst 0, 1) := by decide +kernel
theorem dX10_text_61 : decode cX10_text 61 = .ok (.invokevirtual 273, 3) := by decide +kernel
theorem dX10_text_64 : decode cX10_text 64 = .ok (.aload_n 0, 1) := by decide +kernel
theorem dX10_text_65 : decode cX10_text 65 = .ok (.invokevirtual 303, 3) := by decide +kernel
theorem dX10_text_68 : decode cX10_text 68 = .ok (.iinc 1 1, 3) := by decide +kernel
theorem dX10_text_71 : decode cX10_text 71 = .ok (.goto (-47), 3) := by decide +kernel
theorem dX10_text_74 : decode cX10_text 74 = .ok (.aload_n 0, 1) := by decide +kernel
theorem dX10_text_75 : decode cX10_text 75 = .ok (.iconst 0, 1) := by decide +kernel
theorem dX10_text_76 : decode cX10_text 76 = .ok (.putfield 235, 3) := by decide +kernel
theorem dX10_text_79 : decode cX10_text 79 = .ok (.aload_n 0, 1) := by decide +kernel
theorem dX10_text_80 : decode cX10_text 80 = .ok (.getfield 261, 3) := by decide +kernel
theorem dX10_text_83 : decode cX10_text 83 = .ok (.ifCond .eq 37, 3) := by decide +kernel
theorem dX10_text_86 : decode cX10_text 86 = .ok (.iconst 0, 1) := by decide +kernel
theorem dX10_text_87 : decode cX10_text 87 = .ok (.istore_n 2, 1) := by decide +kernel
theorem dX10_text_88 : decode cX10_text 88 = .ok (.iload_n 2, 1) := by decide +kernel
theorem dX10_text_89 : decode cX10_text 89 = .ok (.sipush 337, 3) := by decide +kernel
theorem dX10_text_92 : decode cX10_text 92 = .ok (.if_icmp .ge 21, 3) := by decide +kernel
theorem dX10_text_95 : decode cX10_text 95 = .ok (.aload_n 0, 1) := by decide +kernel
theorem dX10_text_96 : decode cX10_text 96 = .ok (.getfield 7, 3) := by decide +kernel
theorem dX10_text_99 : decode cX10_text 99 = .ok (.iload_n 2, 1) := by decide +kernel
theorem dX10_text_100 : decode cX10_text 100 = .ok (.aload_n 0, 1) := by decide +kernel
theorem dX10_text_101 : decode cX10_text 101 = .ok (.getfield 16, 3) := by decide +kernel
theorem dX10_text_104 : decode cX10_text 104 = .ok (.iload_n 2, 1) := by decide +kernel
theorem dX10_text_105 : decode cX10_text 105 = .ok (.iaload, 1) := by decide +kernel
theorem dX10_text_106 : decode cX10_text 106 = .ok (.iastore, 1) := by decide +kernel
theorem dX10_text_107 : decode cX10_text 107 = .ok (.iinc 2 1, 3) := by decide +kernel
theorem dX10_text_110 : decode cX10_text 110 = .ok (.goto (-22), 3) := by decide +kernel
theorem dX10_text_113 : decode cX10_text 113 = .ok (.iconst (-1), 1) := by decide +kernel
theorem dX10_text_114 : decode cX10_text 114 = .ok (.aload_n 0, 1) := by decide +kernel
theorem dX10_text_115 : decode cX10_text 115 = .ok (.getfield 249, 3) := by decide +kernel
theorem dX10_text_118 : decode cX10_text 118 = .ok (.isub, 1) := by decide +kernel
theorem dX10_text_119 : decode cX10_text 119 = .ok (.ireturn, 1) := by decide +kernel
theorem dX10_text_120 : decode cX10_text 120 = .ok (.iload_n 1, 1) := by decide +kernel
theorem dX10_text_121 : decode cX10_text 121 = .ok (.ireturn, 1) := by decide +kernel
theorem dX10_hold_0 : decode cX10_hold 0 = .ok (.iload_n 1, 1) := by decide +kernel
theorem dX10_hold_1 : decode cX10_hold 1 = .ok (.i2l, 1) := by decide +kernel
theorem dX10_hold_2 : decode cX10_hold 2 = .ok (.lconst 0, 1) := by decide +kernel
theorem dX10_hold_3 : decode cX10_hold 3 = .ok (.ldc2_w 209, 3) := by decide +kernel
theorem dX10_hold_6 : decode cX10_hold 6 = .ok (.invokestatic 71, 3) := by decide +kernel
theorem dX10_hold_9 : decode cX10_hold 9 = .ok (.ifCond .eq 16, 3) := by decide +kernel
theorem dX10_hold_12 : decode cX10_hold 12 = .ok (.iload_n 2, 1) := by decide +kernel
theorem dX10_hold_13 : decode cX10_hold 13 = .ok (.iconst (-1), 1) := by decide +kernel
theorem dX10_hold_14 : decode cX10_hold 14 = .ok (.if_icmp .eq 18, 3) := by decide +kernel
theorem dX10_hold_17 : decode cX10_hold 17 = .ok (.aload_n 0, 1) := by decide +kernel
theorem dX10_hold_18 : decode cX10_hold 18 = .ok (.iload_n 2, 1) := by decide +kernel
theorem dX10_hold_19 : decode cX10_hold 19 = .ok (.invokevirtual 145, 3) := by decide +kernel
theorem dX10_hold_22 : decode cX10_hold 22 = .ok (.ifCond .ne 10, 3) := by decide +kernel
theorem dX10_hold_25 : decode cX10_hold 25 = .ok (.aload_n 0, 1) := by decide +kernel
theorem dX10_hold_26 : decode cX10_hold 26 = .ok (.ldc 68, 2) := by decide +kernel
theorem dX10_hold_28 : decode cX10_hold 28 = .ok (.invokevirtual 86, 3) := by decide +kernel
theorem dX10_hold_31 : decode cX10_hold 31 = .ok (.ireturn, 1) := by decide +kernel
theorem dX10_hold_32 : decode cX10_hold 32 = .ok (.aload_n 0, 1) := by decide +kernel
theorem dX10_hold_33 : decode cX10_hold 33 = .ok (.getfield 7, 3) := by decide +kernel
theorem dX10_hold_36 : decode cX10_hold 36 = .ok (.sipush 274, 3) := by decide +kernel
theorem dX10_hold_39 : decode cX10_hold 39 = .ok (.iload_n 1, 1) := by decide +kernel
theorem dX10_hold_40 : decode cX10_hold 40 = .ok (.iadd, 1) := by decide +kernel
theorem dX10_hold_41 : decode cX10_hold 41 = .ok (.iload_n 2, 1) := by decide +kernel
theorem dX10_hold_42 : decode cX10_hold 42 = .ok (.iastore, 1) := by decide +kernel
theorem dX10_hold_43 : decode cX10_hold 43 = .ok (.iconst 1, 1) := by decide +kernel
theorem dX10_hold_44 : decode cX10_hold 44 = .ok (.ireturn, 1) := by decide +kernel
theorem dX10_isUnder_0 : decode cX10_isUnder 0 = .ok (.iload_n 0, 1) := by decide +kernel
theorem dX10_isUnder_1 : decode cX10_isUnder 1 = .ok (.iload_n 1, 1) := by decide +kernel
theorem dX10_isUnder_2 : decode cX10_isUnder 2 = .ok (.if_icmp .eq 44, 3) := by decide +kernel
theorem dX10_isUnder_5 : decode cX10_isUnder 5 = .ok (.iload_n 1, 1) := by decide +kernel
theorem dX10_isUnder_6 : decode cX10_isUnder 6 = .ok (.ifCond .eq 40, 3) := by decide +kernel
theorem dX10_isUnder_9 : decode cX10_isUnder 9 = .ok (.iload_n 1, 1) := by decide +kernel
theorem dX10_isUnder_10 : decode cX10_isUnder 10 = .ok (.iconst 1, 1) := by decide +kernel
theorem dX10_isUnder_11 : decode cX10_isUnder 11 = .ok (.if_icmp .ne 8, 3) := by decide +kernel
theorem dX10_isUnder_14 : decode cX10_isUnder 14 = .ok (.iload_n 0, 1) := by decide +kernel
theorem dX10_isUnder_15 : decode cX10_isUnder 15 = .ok (.iconst 4, 1) := by decide +kernel
theorem dX10_isUnder_16 : decode cX10_isUnder 16 = .ok (.if_icmp .eq 30, 3) := by decide +kernel
theorem dX10_isUnder_19 : decode cX10_isUnder 19 = .ok (.iload_n 1, 1) := by decide +kernel
theorem dX10_isUnder_20 : decode cX10_isUnder 20 = .ok (.iconst 2, 1) := by decide +kernel
theorem dX10_isUnder_21 : decode cX10_isUnder 21 = .ok (.if_icmp .ne 14, 3) := by decide +kernel
theorem dX10_isUnder_24 : decode cX10_isUnder 24 = .ok (.iload_n 0, 1) := by decide +kernel
theorem dX10_isUnder_25 : decode cX10_isUnder 25 = .ok (.iconst 3, 1) := by decide +kernel
theorem dX10_isUnder_26 : decode cX10_isUnder 26 = .ok (.if_icmp .eq 20, 3) := by decide +kernel
theorem dX10_isUnder_29 : decode cX10_isUnder 29 = .ok (.iload_n 0, 1) := by decide +kernel
theorem dX10_isUnder_30 : decode cX10_isUnder 30 = .ok (.bipush 6, 2) := by decide +kernel
theorem dX10_isUnder_32 : decode cX10_isUnder 32 = .ok (.if_icmp .eq 14, 3) := by decide +kernel
theorem dX10_isUnder_35 : decode cX10_isUnder 35 = .ok (.iload_n 1, 1) := by decide +kernel
theorem dX10_isUnder_36 : decode cX10_isUnder 36 = .ok (.iconst 3, 1) := by decide +kernel
theorem dX10_isUnder_37 : decode cX10_isUnder 37 = .ok (.if_icmp .ne 13, 3) := by decide +kernel
theorem dX10_isUnder_40 : decode cX10_isUnder 40 = .ok (.iload_n 0, 1) := by decide +kernel
theorem dX10_isUnder_41 : decode cX10_isUnder 41 = .ok (.bipush 6, 2) := by decide +kernel
theorem dX10_isUnder_43 : decode cX10_isUnder 43 = .ok (.if_icmp .ne 7, 3) := by decide +kernel
theorem dX10_isUnder_46 : decode cX10_isUnder 46 = .ok (.iconst 1, 1) := by decide +kernel
theorem dX10_isUnder_47 : decode cX10_isUnder 47 = .ok (.goto 4, 3) := by decide +kernel
theorem dX10_isUnder_50 : decode cX10_isUnder 50 = .ok (.iconst 0, 1) := by decide +kernel
theorem dX10_isUnder_51 : decode cX10_isUnder 51 = .ok (.ireturn, 1) := by decide +kernel
theorem dX10_as_0 : decode cX10_as 0 = .ok (.iload_n 1, 1) := by decide +kernel
theorem dX10_as_1 : decode cX10_as 1 = .ok (.i2l, 1) := by decide +kernel
theorem dX10_as_2 : decode cX10_as 2 = .ok (.lconst 0, 1) := by decide +kernel
theorem dX10_as_3 : decode cX10_as 3 = .ok (.ldc2_w 209, 3) := by decide +kernel
theorem dX10_as_6 : decode cX10_as 6 = .ok (.invokestatic 71, 3) := by decide +kernel
theorem dX10_as_9 : decode cX10_as 9 = .ok (.ifCond .eq 15, 3) := by decide +kernel
theorem dX10_as_12 : decode cX10_as 12 = .ok (.iload_n 2, 1) := by decide +kernel
theorem dX10_as_13 : decode cX10_as 13 = .ok (.i2l, 1) := by decide +kernel
theorem dX10_as_14 : decode cX10_as 14 = .ok (.lconst 0, 1) := by decide +kernel
theorem dX10_as_15 : decode cX10_as 15 = .ok (.ldc2_w 137, 3) := by decide +kernel
theorem dX10_as_18 : decode cX10_as 18 = .ok (.invokestatic 71, 3) := by decide +kernel
theorem dX10_as_21 : decode cX10_as 21 = .ok (.ifCond .ne 10, 3) := by decide +kernel
theorem dX10_as_24 : decode cX10_as 24 = .ok (.aload_n 0, 1) := by decide +kernel
theorem dX10_as_25 : decode cX10_as 25 = .ok (.ldc 68, 2) := by decide +kernel
theorem dX10_as_27 : decode cX10_as 27 = .ok (.invokevirtual 86, 3) := by decide +kernel
theorem dX10_as_30 : decode cX10_as 30 = .ok (.ireturn, 1) := by decide +kernel
theorem dX10_as_31 : decode cX10_as 31 = .ok (.aload_n 0, 1) := by decide +kernel
theorem dX10_as_32 : decode cX10_as 32 = .ok (.getfield 7, 3) := by decide +kernel
theorem dX10_as_35 : decode cX10_as 35 = .ok (.sipush 274, 3) := by decide +kernel
theorem dX10_as_38 : decode cX10_as 38 = .ok (.iload_n 1, 1) := by decide +kernel
theorem dX10_as_39 : decode cX10_as 39 = .ok (.iadd, 1) := by decide +kernel
theorem dX10_as_40 : decode cX10_as 40 = .ok (.iaload, 1) := by decide +kernel
theorem dX10_as_41 : decode cX10_as 41 = .ok (.istore_n 3, 1) := by decide +kernel
theorem dX10_as_42 : decode cX10_as 42 = .ok (.iload_n 3, 1) := by decide +kernel
theorem dX10_as_43 : decode cX10_as 43 = .ok (.ifCond .ge 11, 3) := by decide +kernel
theorem dX10_as_46 : decode cX10_as 46 = .ok (.aload_n 0, 1) := by decide +kernel
