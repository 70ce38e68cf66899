theorem dX10_termOf_42 : decode cX10_termOf 42 = .ok (.aload_n 0, 1) := by decide +kernel
theorem dX10_termOf_43 : decode cX10_termOf 43 = .ok (.iload_n 1, 1) := by decide +kernel
theorem dX10_termOf_44 : decode cX10_termOf 44 = .ok (.invokevirtual 148, 3) := by decide +kernel
theorem dX10_termOf_47 : decode cX10_termOf 47 = .ok (.ireturn, 1) := by decide +kernel
theorem dX10_span_0 : decode cX10_span 0 = .ok (.aload_n 0, 1) := by decide +kernel
theorem dX10_span_1 : decode cX10_span 1 = .ok (.iload_n 1, 1) := by decide +kernel
theorem dX10_span_2 : decode cX10_span 2 = .ok (.invokevirtual 145, 3) := by decide +kernel
theorem dX10_span_5 : decode cX10_span 5 = .ok (.ifCond .eq 59, 3) := by decide +kernel
theorem dX10_span_8 : decode cX10_span 8 = .ok (.iload_n 2, 1) := by decide +kernel
theorem dX10_span_9 : decode cX10_span 9 = .ok (.i2l, 1) := by decide +kernel
theorem dX10_span_10 : decode cX10_span 10 = .ok (.lconst 0, 1) := by decide +kernel
theorem dX10_span_11 : decode cX10_span 11 = .ok (.lconst 1, 1) := by decide +kernel
theorem dX10_span_12 : decode cX10_span 12 = .ok (.invokestatic 71, 3) := by decide +kernel
theorem dX10_span_15 : decode cX10_span 15 = .ok (.ifCond .eq 49, 3) := by decide +kernel
theorem dX10_span_18 : decode cX10_span 18 = .ok (.iload_n 3, 1) := by decide +kernel
theorem dX10_span_19 : decode cX10_span 19 = .ok (.i2l, 1) := by decide +kernel
theorem dX10_span_20 : decode cX10_span 20 = .ok (.lconst 0, 1) := by decide +kernel
theorem dX10_span_21 : decode cX10_span 21 = .ok (.iload_n 2, 1) := by decide +kernel
theorem dX10_span_22 : decode cX10_span 22 = .ok (.ifCond .ne 9, 3) := by decide +kernel
theorem dX10_span_25 : decode cX10_span 25 = .ok (.ldc2_w 151, 3) := by decide +kernel
theorem dX10_span_28 : decode cX10_span 28 = .ok (.goto 6, 3) := by decide +kernel
theorem dX10_span_31 : decode cX10_span 31 = .ok (.ldc2_w 77, 3) := by decide +kernel
theorem dX10_span_34 : decode cX10_span 34 = .ok (.invokestatic 71, 3) := by decide +kernel
theorem dX10_span_37 : decode cX10_span 37 = .ok (.ifCond .eq 27, 3) := by decide +kernel
theorem dX10_span_40 : decode cX10_span 40 = .ok (.iload 4, 2) := by decide +kernel
theorem dX10_span_42 : decode cX10_span 42 = .ok (.i2l, 1) := by decide +kernel
theorem dX10_span_43 : decode cX10_span 43 = .ok (.iload_n 3, 1) := by decide +kernel
theorem dX10_span_44 : decode cX10_span 44 = .ok (.i2l, 1) := by decide +kernel
theorem dX10_span_45 : decode cX10_span 45 = .ok (.iload_n 2, 1) := by decide +kernel
theorem dX10_span_46 : decode cX10_span 46 = .ok (.ifCond .ne 9, 3) := by decide +kernel
theorem dX10_span_49 : decode cX10_span 49 = .ok (.ldc2_w 151, 3) := by decide +kernel
theorem dX10_span_52 : decode cX10_span 52 = .ok (.goto 6, 3) := by decide +kernel
theorem dX10_span_55 : decode cX10_span 55 = .ok (.ldc2_w 77, 3) := by decide +kernel
theorem dX10_span_58 : decode cX10_span 58 = .ok (.invokestatic 71, 3) := by decide +kernel
theorem dX10_span_61 : decode cX10_span 61 = .ok (.ifCond .ne 10, 3) := by decide +kernel
theorem dX10_span_64 : decode cX10_span 64 = .ok (.aload_n 0, 1) := by decide +kernel
theorem dX10_span_65 : decode cX10_span 65 = .ok (.ldc 68, 2) := by decide +kernel
theorem dX10_span_67 : decode cX10_span 67 = .ok (.invokevirtual 86, 3) := by decide +kernel
theorem dX10_span_70 : decode cX10_span 70 = .ok (.ireturn, 1) := by decide +kernel
theorem dX10_span_71 : decode cX10_span 71 = .ok (.aload_n 0, 1) := by decide +kernel
theorem dX10_span_72 : decode cX10_span 72 = .ok (.getfield 7, 3) := by decide +kernel
theorem dX10_span_75 : decode cX10_span 75 = .ok (.sipush 190, 3) := by decide +kernel
theorem dX10_span_78 : decode cX10_span 78 = .ok (.bipush 7, 2) := by decide +kernel
theorem dX10_span_80 : decode cX10_span 80 = .ok (.iload_n 1, 1) := by decide +kernel
theorem dX10_span_81 : decode cX10_span 81 = .ok (.imul, 1) := by decide +kernel
theorem dX10_span_82 : decode cX10_span 82 = .ok (.iadd, 1) := by decide +kernel
theorem dX10_span_83 : decode cX10_span 83 = .ok (.iconst 3, 1) := by decide +kernel
theorem dX10_span_84 : decode cX10_span 84 = .ok (.iadd, 1) := by decide +kernel
theorem dX10_span_85 : decode cX10_span 85 = .ok (.iconst 2, 1) := by decide +kernel
theorem dX10_span_86 : decode cX10_span 86 = .ok (.iload_n 2, 1) := by decide +kernel
theorem dX10_span_87 : decode cX10_span 87 = .ok (.imul, 1) := by decide +kernel
theorem dX10_span_88 : decode cX10_span 88 = .ok (.iadd, 1) := by decide +kernel
theorem dX10_span_89 : decode cX10_span 89 = .ok (.iload_n 3, 1) := by decide +kernel
theorem dX10_span_90 : decode cX10_span 90 = .ok (.iastore, 1) := by decide +kernel
theorem dX10_span_91 : decode cX10_span 91 = .ok (.aload_n 0, 1) := by decide +kernel
theorem dX10_span_92 : decode cX10_span 92 = .ok (.getfield 7, 3) := by decide +kernel
theorem dX10_span_95 : decode cX10_span 95 = .ok (.sipush 190, 3) := by decide +kernel
theorem dX10_span_98 : decode cX10_span 98 = .ok (.bipush 7, 2) := by decide +kernel
theorem dX10_span_100 : decode cX10_span 100 = .ok (.iload_n 1, 1) := by decide +kernel
theorem dX10_span_101 : decode cX10_span 101 = .ok (.imul, 1) := by decide +kernel
theorem dX10_span_102 : decode cX10_span 102 = .ok (.iadd, 1) := by decide +kernel
theorem dX10_span_103 : decode cX10_span 103 = .ok (.iconst 3, 1) := by decide +kernel
theorem dX10_span_104 : decode cX10_span 104 = .ok (.iadd, 1) := by decide +kernel
theorem dX10_span_105 : decode cX10_span 105 = .ok (.iconst 2, 1) := by decide +kernel
theorem dX10_span_106 : decode cX10_span 106 = .ok (.iload_n 2, 1) := by decide +kernel
theorem dX10_span_107 : decode cX10_span 107 = .ok (.imul, 1) := by decide +kernel
theorem dX10_span_108 : decode cX10_span 108 = .ok (.iadd, 1) := by decide +kernel
theorem dX10_span_109 : decode cX10_span 109 = .ok (.iconst 1, 1) := by decide +kernel
theorem dX10_span_110 : decode cX10_span 110 = .ok (.iadd, 1) := by decide +kernel
theorem dX10_span_111 : decode cX10_span 111 = .ok (.iload 4, 2) := by decide +kernel
theorem dX10_span_113 : decode cX10_span 113 = .ok (.iastore, 1) := by decide +kernel
theorem dX10_span_114 : decode cX10_span 114 = .ok (.iconst 1, 1) := by decide +kernel
theorem dX10_span_115 : decode cX10_span 115 = .ok (.ireturn, 1) := by decide +kernel
theorem dX10_turn_0 : decode cX10_turn 0 = .ok (.aload_n 0, 1) := by decide +kernel
theorem dX10_turn_1 : decode cX10_turn 1 = .ok (.iload_n 1, 1) := by decide +kernel
theorem dX10_turn_2 : decode cX10_turn 2 = .ok (.invokevirtual 145, 3) := by decide +kernel
theorem dX10_turn_5 : decode cX10_turn 5 = .ok (.ifCond .eq 15, 3) := by decide +kernel
theorem dX10_turn_8 : decode cX10_turn 8 = .ok (.iload_n 2, 1) := by decide +kernel
theorem dX10_turn_9 : decode cX10_turn 9 = .ok (.i2l, 1) := by decide +kernel
theorem dX10_turn_10 : decode cX10_turn 10 = .ok (.lconst 0, 1) := by decide +kernel
theorem dX10_turn_11 : decode cX10_turn 11 = .ok (.ldc2_w 137, 3) := by decide +kernel
theorem dX10_turn_14 : decode cX10_turn 14 = .ok (.invokestatic 71, 3) := by decide +kernel
theorem dX10_turn_17 : decode cX10_turn 17 = .ok (.ifCond .ne 10, 3) := by decide +kernel
theorem dX10_turn_20 : decode cX10_turn 20 = .ok (.aload_n 0, 1) := by decide +kernel
theorem dX10_turn_21 : decode cX10_turn 21 = .ok (.ldc 68, 2) := by decide +kernel
theorem dX10_turn_23 : decode cX10_turn 23 = .ok (.invokevirtual 86, 3) := by decide +kernel
theorem dX10_turn_26 : decode cX10_turn 26 = .ok (.ireturn, 1) := by decide +kernel
theorem dX10_turn_27 : decode cX10_turn 27 = .ok (.aload_n 0, 1) := by decide +kernel
theorem dX10_turn_28 : decode cX10_turn 28 = .ok (.iload_n 1, 1) := by decide +kernel
theorem dX10_turn_29 : decode cX10_turn 29 = .ok (.iconst 0, 1) := by decide +kernel
theorem dX10_turn_30 : decode cX10_turn 30 = .ok (.invokevirtual 131, 3) := by decide +kernel
theorem dX10_turn_33 : decode cX10_turn 33 = .ok (.istore_n 3, 1) := by decide +kernel
theorem dX10_turn_34 : decode cX10_turn 34 = .ok (.aload_n 0, 1) := by decide +kernel
theorem dX10_turn_35 : decode cX10_turn 35 = .ok (.getfield 7, 3) := by decide +kernel
theorem dX10_turn_38 : decode cX10_turn 38 = .ok (.sipush 190, 3) := by decide +kernel
theorem dX10_turn_41 : decode cX10_turn 41 = .ok (.bipush 7, 2) := by decide +kernel
theorem dX10_turn_43 : decode cX10_turn 43 = .ok (.iload_n 1, 1) := by decide +kernel
theorem dX10_turn_44 : decode cX10_turn 44 = .ok (.imul, 1) := by decide +kernel
theorem dX10_turn_45 : decode cX10_turn 45 = .ok (.iadd, 1) := by decide +kernel
theorem dX10_turn_46 : decode cX10_turn 46 = .ok (.iload_n 2, 1) := by decide +kernel
theorem dX10_turn_47 : decode cX10_turn 47 = .ok (.iastore, 1) := by decide +kernel
theorem dX10_turn_48 : decode cX10_turn 48 = .ok (.iload_n 3, 1) := by decide +kernel
theorem dX10_turn_49 : decode cX10_turn 49 = .ok (.ireturn, 1) := by decide +kernel
theorem dX10_change_0 : decode cX10_change 0 = .ok (.aload_n 0, 1) := by decide +kernel
theorem dX10_change_1 : decode cX10_change 1 = .ok (.iload_n 1, 1) := by decide +kernel
theorem dX10_change_2 : decode cX10_change 2 = .ok (.invokevirtual 145, 3) := by decide +kernel
theorem dX10_change_5 : decode cX10_change 5 = .ok (.ifCond .eq 22, 3) := by decide +kernel
theorem dX10_change_8 : decode cX10_change 8 = .ok (.iload_n 2, 1) := by decide +kernel
theorem dX10_change_9 : decode cX10_change 9 = .ok (.i2l, 1) := by decide +kernel
theorem dX10_change_10 : decode cX10_change 10 = .ok (.lconst 1, 1) := by decide +kernel
theorem dX10_change_11 : decode cX10_change 11 = .ok (.ldc2_w 77, 3) := by decide +kernel
theorem dX10_change_14 : decode cX10_change 14 = .ok (.invokestatic 71, 3) := by decide +kernel
theorem dX10_change_17 : decode cX10_change 17 = .ok (.ifCond .eq 10, 3) := by decide +kernel
theorem dX10_change_20 : decode cX10_change 20 = .ok (.iload_n 3, 1) := by decide +kernel
theorem dX10_change_21 : decode cX10_change 21 = .ok (.invokestatic 82, 3) := by decide +kernel
theorem dX10_change_24 : decode cX10_change 24 = .ok (.ifCond .ne 10, 3) := by decide +kernel
theorem dX10_change_27 : decode cX10_change 27 = .ok (.aload_n 0, 1) := by decide +kernel
theorem dX10_change_28 : decode cX10_change 28 = .ok (.ldc 68, 2) := by decide +kernel
theorem dX10_change_30 : decode cX10_change 30 = .ok (.invokevirtual 86, 3) := by decide +kernel
theorem dX10_change_33 : decode cX10_change 33 = .ok (.ireturn, 1) := by decide +kernel
theorem dX10_change_34 : decode cX10_change 34 = .ok (.iload_n 2, 1) := by decide +kernel
theorem dX10_change_35 : decode cX10_change 35 = .ok (.aload_n 0, 1) := by decide +kernel
theorem dX10_change_36 : decode cX10_change 36 = .ok (.iload_n 1, 1) := by decide +kernel
theorem dX10_change_37 : decode cX10_change 37 = .ok (.iconst 5, 1) := by decide +kernel
theorem dX10_change_38 : decode cX10_change 38 = .ok (.invokevirtual 131, 3) := by decide +kernel
theorem dX10_change_41 : decode cX10_change 41 = .ok (.if_icmp .le 14, 3) := by decide +kernel
theorem dX10_change_44 : decode cX10_change 44 = .ok (.iload_n 2, 1) := by decide +kernel
theorem dX10_change_45 : decode cX10_change 45 = .ok (.aload_n 0, 1) := by decide +kernel
theorem dX10_change_46 : decode cX10_change 46 = .ok (.iload_n 1, 1) := by decide +kernel
theorem dX10_change_47 : decode cX10_change 47 = .ok (.bipush 6, 2) := by decide +kernel
theorem dX10_change_49 : decode cX10_change 49 = .ok (.invokevirtual 131, 3) := by decide +kernel
theorem dX10_change_52 : decode cX10_change 52 = .ok (.if_icmp .le 10, 3) := by decide +kernel
theorem dX10_change_55 : decode cX10_change 55 = .ok (.aload_n 0, 1) := by decide +kernel
theorem dX10_change_56 : decode cX10_change 56 = .ok (.ldc 153, 2) := by decide +kernel
theorem dX10_change_58 : decode cX10_change 58 = .ok (.invokevirtual 86, 3) := by decide +kernel
theorem dX10_change_61 : decode cX10_change 61 = .ok (.ireturn, 1) := by decide +kernel
theorem dX10_change_62 : decode cX10_change 62 = .ok (.aload_n 0, 1) := by decide +kernel
theorem dX10_change_63 : decode cX10_change 63 = .ok (.aload_n 0, 1) := by decide +kernel
theorem dX10_change_64 : decode cX10_change 64 = .ok (.iload_n 1, 1) := by decide +kernel
theorem dX10_change_65 : decode cX10_change 65 = .ok (.iconst 1, 1) := by decide +kernel
theorem dX10_change_66 : decode cX10_change 66 = .ok (.invokevirtual 131, 3) := by decide +kernel
theorem dX10_change_69 : decode cX10_change 69 = .ok (.invokevirtual 139, 3) := by decide +kernel
theorem dX10_change_72 : decode cX10_change 72 = .ok (.ifCond .ne 10, 3) := by decide +kernel
theorem dX10_change_75 : decode cX10_change 75 = .ok (.aload_n 0, 1) := by decide +kernel
theorem dX10_change_76 : decode cX10_change 76 = .ok (.ldc 104, 2) := by decide +kernel
theorem dX10_change_78 : decode cX10_change 78 = .ok (.invokevirtual 86, 3) := by decide +kernel
theorem dX10_change_81 : decode cX10_change 81 = .ok (.ireturn, 1) := by decide +kernel
theorem dX10_change_82 : decode cX10_change 82 = .ok (.aload_n 0, 1) := by decide +kernel
theorem dX10_change_83 : decode cX10_change 83 = .ok (.aload_n 0, 1) := by decide +kernel
theorem dX10_change_84 : decode cX10_change 84 = .ok (.iload_n 1, 1) := by decide +kernel
theorem dX10_change_85 : decode cX10_change 85 = .ok (.iconst 0, 1) := by decide +kernel
theorem dX10_change_86 : decode cX10_change 86 = .ok (.invokevirtual 131, 3) := by decide +kernel
theorem dX10_change_89 : decode cX10_change 89 = .ok (.aload_n 0, 1) := by decide +kernel
theorem dX10_change_90 : decode cX10_change 90 = .ok (.iload_n 1, 1) := by decide +kernel
theorem dX10_change_91 : decode cX10_change 91 = .ok (.iconst 1, 1) := by decide +kernel
theorem dX10_change_92 : decode cX10_change 92 = .ok (.invokevirtual 131, 3) := by decide +kernel
theorem dX10_change_95 : decode cX10_change 95 = .ok (.iload_n 3, 1) := by decide +kernel
theorem dX10_change_96 : decode cX10_change 96 = .ok (.invokevirtual 142, 3) := by decide +kernel
theorem dX10_change_99 : decode cX10_change 99 = .ok (.istore 4, 2) := by decide +kernel
theorem dX10_change_101 : decode cX10_change 101 = .ok (.sipush 190, 3) := by decide +kernel
theorem dX10_change_104 : decode cX10_change 104 = .ok (.bipush 7, 2) := by decide +kernel
theorem dX10_change_106 : decode cX10_change 106 = .ok (.iload 4, 2) := by decide +kernel
theorem dX10_change_108 : decode cX10_change 108 = .ok (.imul, 1) := by decide +kernel
theorem dX10_change_109 : decode cX10_change 109 = .ok (.iadd, 1) := by decide +kernel
theorem dX10_change_110 : decode cX10_change 110 = .ok (.istore 5, 2) := by decide +kernel
theorem dX10_change_112 : decode cX10_change 112 = .ok (.aload_n 0, 1) := by decide +kernel
theorem dX10_change_113 : decode cX10_change 113 = .ok (.getfield 7, 3) := by decide +kernel
theorem dX10_change_116 : decode cX10_change 116 = .ok (.iload 5, 2) := by decide +kernel
theorem dX10_change_118 : decode cX10_change 118 = .ok (.iconst 3, 1) := by decide +kernel
theorem dX10_change_119 : decode cX10_change 119 = .ok (.iadd, 1) := by decide +kernel
theorem dX10_change_120 : decode cX10_change 120 = .ok (.aload_n 0, 1) := by decide +kernel
theorem dX10_change_121 : decode cX10_change 121 = .ok (.iload_n 1, 1) := by decide +kernel
theorem dX10_change_122 : decode cX10_change 122 = .ok (.iconst 3, 1) := by decide +kernel
theorem dX10_change_123 : decode cX10_change 123 = .ok (.invokevirtual 131, 3) := by decide +kernel
theorem dX10_change_126 : decode cX10_change 126 = .ok (.iastore, 1) := by decide +kernel
theorem dX10_change_127 : decode cX10_change 127 = .ok (.aload_n 0, 1) := by decide +kernel
theorem dX10_change_128 : decode cX10_change 128 = .ok (.getfield 7, 3) := by decide +kernel
theorem dX10_change_131 : decode cX10_change 131 = .ok (.iload 5, 2) := by decide +kernel
theorem dX10_change_133 : decode cX10_change 133 = .ok (.iconst 3, 1) := by decide +kernel
theorem dX10_change_134 : decode cX10_change 134 = .ok (.iadd, 1) := by decide +kernel
theorem dX10_change_135 : decode cX10_change 135 = .ok (.iconst 1, 1) := by decide +kernel
theorem dX10_change_136 : decode cX10_change 136 = .ok (.iadd, 1) := by decide +kernel
theorem dX10_change_137 : decode cX10_change 137 = .ok (.aload_n 0, 1) := by decide +kernel
theorem dX10_change_138 : decode cX10_change 138 = .ok (.iload_n 1, 1) := by decide +kernel
theorem dX10_change_139 : decode cX10_change 139 = .ok (.iconst 4, 1) := by decide +kernel
theorem dX10_change_140 : decode cX10_change 140 = .ok (.invokevirtual 131, 3) := by decide +kernel
theorem dX10_change_143 : decode cX10_change 143 = .ok (.iastore, 1) := by decide +kernel
theorem dX10_change_144 : decode cX10_change 144 = .ok (.aload_n 0, 1) := by decide +kernel
theorem dX10_change_145 : decode cX10_change 145 = .ok (.getfield 7, 3) := by decide +kernel
theorem dX10_change_148 : decode cX10_change 148 = .ok (.iload 5, 2) := by decide +kernel
theorem dX10_change_150 : decode cX10_change 150 = .ok (.iconst 5, 1) := by decide +kernel
theorem dX10_change_151 : decode cX10_change 151 = .ok (.iadd, 1) := by decide +kernel
theorem dX10_change_152 : decode cX10_change 152 = .ok (.iload_n 2, 1) := by decide +kernel
theorem dX10_change_153 : decode cX10_change 153 = .ok (.iastore, 1) := by decide +kernel
theorem dX10_change_154 : decode cX10_change 154 = .ok (.aload_n 0, 1) := by decide +kernel
theorem dX10_change_155 : decode cX10_change 155 = .ok (.getfield 7, 3) := by decide +kernel
theorem dX10_change_158 : decode cX10_change 158 = .ok (.iload 5, 2) := by decide +kernel
theorem dX10_change_160 : decode cX10_change 160 = .ok (.iconst 5, 1) := by decide +kernel
theorem dX10_change_161 : decode cX10_change 161 = .ok (.iadd, 1) := by decide +kernel
theorem dX10_change_162 : decode cX10_change 162 = .ok (.iconst 1, 1) := by decide +kernel
theorem dX10_change_163 : decode cX10_change 163 = .ok (.iadd, 1) := by decide +kernel
theorem dX10_change_164 : decode cX10_change 164 = .ok (.aload_n 0, 1) := by decide +kernel
theorem dX10_change_165 : decode cX10_change 165 = .ok (.iload_n 1, 1) := by decide +kernel
theorem dX10_change_166 : decode cX10_change 166 = .ok (.bipush 6, 2) := by decide +kernel
theorem dX10_change_168 : decode cX10_change 168 = .ok (.invokevirtual 131, 3) := by decide +kernel
theorem dX10_change_171 : decode cX10_change 171 = .ok (.iastore, 1) := by decide +kernel
theorem dX10_change_172 : decode cX10_change 172 = .ok (.aload_n 0, 1) := by decide +kernel
theorem dX10_change_173 : decode cX10_change 173 = .ok (.getfield 7, 3) := by decide +kernel
theorem dX10_change_176 : decode cX10_change 176 = .ok (.sipush 190, 3) := by decide +kernel
theorem dX10_change_179 : decode cX10_change 179 = .ok (.bipush 7, 2) := by decide +kernel
theorem dX10_change_181 : decode cX10_change 181 = .ok (.iload_n 1, 1) := by decide +kernel
theorem dX10_change_182 : decode cX10_change 182 = .ok (.imul, 1) := by decide +kernel
theorem dX10_change_183 : decode cX10_change 183 = .ok (.iadd, 1) := by decide +kernel
theorem dX10_change_184 : decode cX10_change 184 = .ok (.iconst 5, 1) := by decide +kernel
theorem dX10_change_185 : decode cX10_change 185 = .ok (.iadd, 1) := by decide +kernel
theorem dX10_change_186 : decode cX10_change 186 = .ok (.iconst 1, 1) := by decide +kernel
theorem dX10_change_187 : decode cX10_change 187 = .ok (.iadd, 1) := by decide +kernel
theorem dX10_change_188 : decode cX10_change 188 = .ok (.iload_n 2, 1) := by decide +kernel
theorem dX10_change_189 : decode cX10_change 189 = .ok (.iconst 1, 1) := by decide +kernel
theorem dX10_change_190 : decode cX10_change 190 = .ok (.isub, 1) := by decide +kernel
theorem dX10_change_191 : decode cX10_change 191 = .ok (.iastore, 1) := by decide +kernel
theorem dX10_change_192 : decode cX10_change 192 = .ok (.iload 4, 2) := by decide +kernel
theorem dX10_change_194 : decode cX10_change 194 = .ok (.ireturn, 1) := by decide +kernel
theorem dX10_badOf_0 : decode cX10_badOf 0 = .ok (.aload_n 0, 1) := by decide +kernel
theorem dX10_badOf_1 : decode cX10_badOf 1 = .ok (.iload_n 1, 1) := by decide +kernel
theorem dX10_badOf_2 : decode cX10_badOf 2 = .ok (.iconst 2, 1) := by decide +kernel
theorem dX10_badOf_3 : decode cX10_badOf 3 = .ok (.invokevirtual 131, 3) := by decide +kernel
theorem dX10_badOf_6 : decode cX10_badOf 6 = .ok (.istore_n 2, 1) := by decide +kernel
theorem dX10_badOf_7 : decode cX10_badOf 7 = .ok (.aload_n 0, 1) := by decide +kernel
theorem dX10_badOf_8 : decode cX10_badOf 8 = .ok (.iload_n 1, 1) := by decide +kernel
theorem dX10_badOf_9 : decode cX10_badOf 9 = .ok (.iconst 0, 1) := by decide +kernel
theorem dX10_badOf_10 : decode cX10_badOf 10 = .ok (.invokevirtual 131, 3) := by decide +kernel
theorem dX10_badOf_13 : decode cX10_badOf 13 = .ok (.tableswitch 66 0 5 #[39, 49, 66, 66, 53, 39], 39) := by decide +kernel
theorem dX10_badOf_52 : decode cX10_badOf 52 = .ok (.sipush 255, 3) := by decide +kernel
theorem dX10_badOf_55 : decode cX10_badOf 55 = .ok (.iconst 1, 1) := by decide +kernel
theorem dX10_badOf_56 : decode cX10_badOf 56 = .ok (.iload_n 2, 1) := by decide +kernel
theorem dX10_badOf_57 : decode cX10_badOf 57 = .ok (.ishl, 1) := by decide +kernel
theorem dX10_badOf_58 : decode cX10_badOf 58 = .ok (.iconst (-1), 1) := by decide +kernel
theorem dX10_badOf_59 : decode cX10_badOf 59 = .ok (.ixor, 1) := by decide +kernel
theorem dX10_badOf_60 : decode cX10_badOf 60 = .ok (.iand, 1) := by decide +kernel
theorem dX10_badOf_61 : decode cX10_badOf 61 = .ok (.ireturn, 1) := by decide +kernel
theorem dX10_badOf_62 : decode cX10_badOf 62 = .ok (.iconst 1, 1) := by decide +kernel
theorem dX10_badOf_63 : decode cX10_badOf 63 = .ok (.iload_n 2, 1) := by decide +kernel
theorem dX10_badOf_64 : decode cX10_badOf 64 = .ok (.ishl, 1) := by decide +kernel
theorem dX10_badOf_65 : decode cX10_badOf 65 = .ok (.ireturn, 1) := by decide +kernel
theorem dX10_badOf_66 : decode cX10_badOf 66 = .ok (.iconst 1, 1) := by decide +kernel
theorem dX10_badOf_67 : decode cX10_badOf 67 = .ok (.iload_n 2, 1) := by decide +kernel
theorem dX10_badOf_68 : decode cX10_badOf 68 = .ok (.ishl, 1) := by decide +kernel
theorem dX10_badOf_69 : decode cX10_badOf 69 = .ok (.aload_n 0, 1) := by decide +kernel
theorem dX10_badOf_70 : decode cX10_badOf 70 = .ok (.getfield 7, 3) := by decide +kernel
theorem dX10_badOf_73 : decode cX10_badOf 73 = .ok (.iconst 0, 1) := by decide +kernel
theorem dX10_badOf_74 : decode cX10_badOf 74 = .ok (.iload_n 2, 1) := by decide +kernel
theorem dX10_badOf_75 : decode cX10_badOf 75 = .ok (.iadd, 1) := by decide +kernel
theorem dX10_badOf_76 : decode cX10_badOf 76 = .ok (.iaload, 1) := by decide +kernel
theorem dX10_badOf_77 : decode cX10_badOf 77 = .ok (.ior, 1) := by decide +kernel
theorem dX10_badOf_78 : decode cX10_badOf 78 = .ok (.ireturn, 1) := by decide +kernel
theorem dX10_badOf_79 : decode cX10_badOf 79 = .ok (.iconst 0, 1) := by decide +kernel
theorem dX10_badOf_80 : decode cX10_badOf 80 = .ok (.ireturn, 1) := by decide +kernel
theorem dX10_bad_0 : decode cX10_bad 0 = .ok (.aload_n 0, 1) := by decide +kernel
theorem dX10_bad_1 : decode cX10_bad 1 = .ok (.iload_n 1, 1) := by decide +kernel
theorem dX10_bad_2 : decode cX10_bad 2 = .ok (.invokevirtual 145, 3) := by decide +kernel
theorem dX10_bad_5 : decode cX10_bad 5 = .ok (.ifCond .eq 11, 3) := by decide +kernel
theorem dX10_bad_8 : decode cX10_bad 8 = .ok (.aload_n 0, 1) := by decide +kernel
theorem dX10_bad_9 : decode cX10_bad 9 = .ok (.iload_n 1, 1) := by decide +kernel
theorem dX10_bad_10 : decode cX10_bad 10 = .ok (.invokevirtual 154, 3) := by decide +kernel
theorem dX10_bad_13 : decode cX10_bad 13 = .ok (.goto 9, 3) := by decide +kernel
theorem dX10_bad_16 : decode cX10_bad 16 = .ok (.aload_n 0, 1) := by decide +kernel
theorem dX10_bad_17 : decode cX10_bad 17 = .ok (.ldc 68, 2) := by decide +kernel
theorem dX10_bad_19 : decode cX10_bad 19 = .ok (.invokevirtual 86, 3) := by decide +kernel
theorem dX10_bad_22 : decode cX10_bad 22 = .ok (.ireturn, 1) := by decide +kernel
theorem dX10_isInForce_0 : decode cX10_isInForce 0 = .ok (.iload_n 2, 1) := by decide +kernel
theorem dX10_isInForce_1 : decode cX10_isInForce 1 = .ok (.i2l, 1) := by decide +kernel
theorem dX10_isInForce_2 : decode cX10_isInForce 2 = .ok (.aload_n 0, 1) := by decide +kernel
theorem dX10_isInForce_3 : decode cX10_isInForce 3 = .ok (.iload_n 1, 1) := by decide +kernel
theorem dX10_isInForce_4 : decode cX10_isInForce 4 = .ok (.iconst 5, 1) := by decide +kernel
theorem dX10_isInForce_5 : decode cX10_isInForce 5 = .ok (.invokevirtual 131, 3) := by decide +kernel
theorem dX10_isInForce_8 : decode cX10_isInForce 8 = .ok (.i2l, 1) := by decide +kernel
theorem dX10_isInForce_9 : decode cX10_isInForce 9 = .ok (.aload_n 0, 1) := by decide +kernel
theorem dX10_isInForce_10 : decode cX10_isInForce 10 = .ok (.iload_n 1, 1) := by decide +kernel
theorem dX10_isInForce_11 : decode cX10_isInForce 11 = .ok (.bipush 6, 2) := by decide +kernel
theorem dX10_isInForce_13 : decode cX10_isInForce 13 = .ok (.invokevirtual 131, 3) := by decide +kernel
theorem dX10_isInForce_16 : decode cX10_isInForce 16 = .ok (.i2l, 1) := by decide +kernel
theorem dX10_isInForce_17 : decode cX10_isInForce 17 = .ok (.invokestatic 71, 3) := by decide +kernel
theorem dX10_isInForce_20 : decode cX10_isInForce 20 = .ok (.ifCond .eq 25, 3) := by decide +kernel
theorem dX10_isInForce_23 : decode cX10_isInForce 23 = .ok (.aload_n 0, 1) := by decide +kernel
theorem dX10_isInForce_24 : decode cX10_isInForce 24 = .ok (.iload_n 1, 1) := by decide +kernel
theorem dX10_isInForce_25 : decode cX10_isInForce 25 = .ok (.iconst 0, 1) := by decide +kernel
theorem dX10_isInForce_26 : decode cX10_isInForce 26 = .ok (.invokevirtual 131, 3) := by decide +kernel
theorem dX10_isInForce_29 : decode cX10_isInForce 29 = .ok (.iconst 5, 1) := by decide +kernel
theorem dX10_isInForce_30 : decode cX10_isInForce 30 = .ok (.if_icmp .ne 11, 3) := by decide +kernel
theorem dX10_isInForce_33 : decode cX10_isInForce 33 = .ok (.iload_n 2, 1) := by decide +kernel
theorem dX10_isInForce_34 : decode cX10_isInForce 34 = .ok (.bipush 7, 2) := by decide +kernel
theorem dX10_isInForce_36 : decode cX10_isInForce 36 = .ok (.irem, 1) := by decide +kernel
theorem dX10_isInForce_37 : decode cX10_isInForce 37 = .ok (.iconst 5, 1) := by decide +kernel
theorem dX10_isInForce_38 : decode cX10_isInForce 38 = .ok (.if_icmp .ge 7, 3) := by decide +kernel
theorem dX10_isInForce_41 : decode cX10_isInForce 41 = .ok (.iconst 1, 1) := by decide +kernel
theorem dX10_isInForce_42 : decode cX10_isInForce 42 = .ok (.goto 4, 3) := by decide +kernel
theorem dX10_isInForce_45 : decode cX10_isInForce 45 = .ok (.iconst 0, 1) := by decide +kernel
theorem dX10_isInForce_46 : decode cX10_isInForce 46 = .ok (.ireturn, 1) := by decide +kernel
theorem dX10_isAt_0 : decode cX10_isAt 0 = .ok (.iload_n 2, 1) := by decide +kernel
theorem dX10_isAt_1 : decode cX10_isAt 1 = .ok (.i2l, 1) := by decide +kernel
theorem dX10_isAt_2 : decode cX10_isAt 2 = .ok (.aload_n 0, 1) := by decide +kernel
theorem dX10_isAt_3 : decode cX10_isAt 3 = .ok (.iload_n 1, 1) := by decide +kernel
theorem dX10_isAt_4 : decode cX10_isAt 4 = .ok (.iconst 3, 1) := by decide +kernel
theorem dX10_isAt_5 : decode cX10_isAt 5 = .ok (.invokevirtual 131, 3) := by decide +kernel
theorem dX10_isAt_8 : decode cX10_isAt 8 = .ok (.i2l, 1) := by decide +kernel
theorem dX10_isAt_9 : decode cX10_isAt 9 = .ok (.aload_n 0, 1) := by decide +kernel
theorem dX10_isAt_10 : decode cX10_isAt 10 = .ok (.iload_n 1, 1) := by decide +kernel
theorem dX10_isAt_11 : decode cX10_isAt 11 = .ok (.iconst 4, 1) := by decide +kernel
theorem dX10_isAt_12 : decode cX10_isAt 12 = .ok (.invokevirtual 131, 3) := by decide +kernel
theorem dX10_isAt_15 : decode cX10_isAt 15 = .ok (.i2l, 1) := by decide +kernel
theorem dX10_isAt_16 : decode cX10_isAt 16 = .ok (.invokestatic 71, 3) := by decide +kernel
theorem dX10_isAt_19 : decode cX10_isAt 19 = .ok (.ireturn, 1) := by decide +kernel
theorem dX10_inForceOf_0 : decode cX10_inForceOf 0 = .ok (.iconst 0, 1) := by decide +kernel
theorem dX10_inForceOf_1 : decode cX10_inForceOf 1 = .ok (.istore_n 3, 1) := by decide +kernel
theorem dX10_inForceOf_2 : decode cX10_inForceOf 2 = .ok (.iconst 0, 1) := by decide +kernel
theorem dX10_inForceOf_3 : decode cX10_inForceOf 3 = .ok (.istore 4, 2) := by decide +kernel
theorem dX10_inForceOf_5 : decode cX10_inForceOf 5 = .ok (.iload 4, 2) := by decide +kernel
theorem dX10_inForceOf_7 : decode cX10_inForceOf 7 = .ok (.aload_n 0, 1) := by decide +kernel
theorem dX10_inForceOf_8 : decode cX10_inForceOf 8 = .ok (.getfield 7, 3) := by decide +kernel
theorem dX10_inForceOf_11 : decode cX10_inForceOf 11 = .ok (.sipush 189, 3) := by decide +kernel
theorem dX10_inForceOf_14 : decode cX10_inForceOf 14 = .ok (.iaload, 1) := by decide +kernel
theorem dX10_inForceOf_15 : decode cX10_inForceOf 15 = .ok (.if_icmp .ge 41, 3) := by decide +kernel
theorem dX10_inForceOf_18 : decode cX10_inForceOf 18 = .ok (.iload_n 3, 1) := by decide +kernel
theorem dX10_inForceOf_19 : decode cX10_inForceOf 19 = .ok (.aload_n 0, 1) := by decide +kernel
theorem dX10_inForceOf_20 : decode cX10_inForceOf 20 = .ok (.iload 4, 2) := by decide +kernel
theorem dX10_inForceOf_22 : decode cX10_inForceOf 22 = .ok (.iconst 1, 1) := by decide +kernel
theorem dX10_inForceOf_23 : decode cX10_inForceOf 23 = .ok (.invokevirtual 131, 3) := by decide +kernel
theorem dX10_inForceOf_26 : decode cX10_inForceOf 26 = .ok (.iload_n 1, 1) := by decide +kernel
theorem dX10_inForceOf_27 : decode cX10_inForceOf 27 = .ok (.if_icmp .ne 20, 3) := by decide +kernel
theorem dX10_inForceOf_30 : decode cX10_inForceOf 30 = .ok (.aload_n 0, 1) := by decide +kernel
theorem dX10_inForceOf_31 : decode cX10_inForceOf 31 = .ok (.iload 4, 2) := by decide +kernel
theorem dX10_inForceOf_33 : decode cX10_inForceOf 33 = .ok (.iload_n 2, 1) := by decide +kernel
theorem dX10_inForceOf_34 : decode cX10_inForceOf 34 = .ok (.invokevirtual 157, 3) := by decide +kernel
theorem dX10_inForceOf_37 : decode cX10_inForceOf 37 = .ok (.ifCond .eq 10, 3) := by decide +kernel
theorem dX10_inForceOf_40 : decode cX10_inForceOf 40 = .ok (.iconst 1, 1) := by decide +kernel
theorem dX10_inForceOf_41 : decode cX10_inForceOf 41 = .ok (.iload 4, 2) := by decide +kernel
theorem dX10_inForceOf_43 : decode cX10_inForceOf 43 = .ok (.ishl, 1) := by decide +kernel
theorem dX10_inForceOf_44 : decode cX10_inForceOf 44 = .ok (.goto 4, 3) := by decide +kernel
theorem dX10_inForceOf_47 : decode cX10_inForceOf 47 = .ok (.iconst 0, 1) := by decide +kernel
theorem dX10_inForceOf_48 : decode cX10_inForceOf 48 = .ok (.ior, 1) := by decide +kernel
theorem dX10_inForceOf_49 : decode cX10_inForceOf 49 = .ok (.istore_n 3, 1) := by decide +kernel
theorem dX10_inForceOf_50 : decode cX10_inForceOf 50 = .ok (.iinc 4 1, 3) := by decide +kernel
theorem dX10_inForceOf_53 : decode cX10_inForceOf 53 = .ok (.goto (-48), 3) := by decide +kernel
theorem dX10_inForceOf_56 : decode cX10_inForceOf 56 = .ok (.iload_n 3, 1) := by decide +kernel
theorem dX10_inForceOf_57 : decode cX10_inForceOf 57 = .ok (.ireturn, 1) := by decide +kernel
theorem dX10_inForce_0 : decode cX10_inForce 0 = .ok (.iload_n 1, 1) := by decide +kernel
theorem dX10_inForce_1 : decode cX10_inForce 1 = .ok (.invokestatic 98, 3) := by decide +kernel
theorem dX10_inForce_4 : decode cX10_inForce 4 = .ok (.ifCond .eq 19, 3) := by decide +kernel
theorem dX10_inForce_7 : decode cX10_inForce 7 = .ok (.iload_n 2, 1) := by decide +kernel
theorem dX10_inForce_8 : decode cX10_inForce 8 = .ok (.invokestatic 122, 3) := by decide +kernel
theorem dX10_inForce_11 : decode cX10_inForce 11 = .ok (.ifCond .eq 12, 3) := by decide +kernel
theorem dX10_inForce_14 : decode cX10_inForce 14 = .ok (.aload_n 0, 1) := by decide +kernel
theorem dX10_inForce_15 : decode cX10_inForce 15 = .ok (.iload_n 1, 1) := by decide +kernel
theorem dX10_inForce_16 : decode cX10_inForce 16 = .ok (.iload_n 2, 1) := by decide +kernel
theorem dX10_inForce_17 : decode cX10_inForce 17 = .ok (.invokevirtual 160, 3) := by decide +kernel
theorem dX10_inForce_20 : decode cX10_inForce 20 = .ok (.goto 9, 3) := by decide +kernel
theorem dX10_inForce_23 : decode cX10_inForce 23 = .ok (.aload_n 0, 1) := by decide +kernel
theorem dX10_inForce_24 : decode cX10_inForce 24 = .ok (.ldc 68, 2) := by decide +kernel
theorem dX10_inForce_26 : decode cX10_inForce 26 = .ok (.invokevirtual 86, 3) := by decide +kernel
theorem dX10_inForce_29 : decode cX10_inForce 29 = .ok (.ireturn, 1) := by decide +kernel
theorem dX10_keptOf_0 : decode cX10_keptOf 0 = .ok (.aload_n 0, 1) := by decide +kernel
theorem dX10_keptOf_1 : decode cX10_keptOf 1 = .ok (.aload_n 0, 1) := by decide +kernel
theorem dX10_keptOf_2 : decode cX10_keptOf 2 = .ok (.iload_n 1, 1) := by decide +kernel
theorem dX10_keptOf_3 : decode cX10_keptOf 3 = .ok (.iconst 1, 1) := by decide +kernel
theorem dX10_keptOf_4 : decode cX10_keptOf 4 = .ok (.invokevirtual 131, 3) := by decide +kernel
theorem dX10_keptOf_7 : decode cX10_keptOf 7 = .ok (.iload_n 2, 1) := by decide +kernel
theorem dX10_keptOf_8 : decode cX10_keptOf 8 = .ok (.invokevirtual 115, 3) := by decide +kernel
theorem dX10_keptOf_11 : decode cX10_keptOf 11 = .ok (.lconst 0, 1) := by decide +kernel
theorem dX10_keptOf_12 : decode cX10_keptOf 12 = .ok (.lstore_n 3, 1) := by decide +kernel
theorem dX10_keptOf_13 : decode cX10_keptOf 13 = .ok (.iconst 0, 1) := by decide +kernel
theorem dX10_keptOf_14 : decode cX10_keptOf 14 = .ok (.istore 5, 2) := by decide +kernel
theorem dX10_keptOf_16 : decode cX10_keptOf 16 = .ok (.iload 5, 2) := by decide +kernel
theorem dX10_keptOf_18 : decode cX10_keptOf 18 = .ok (.bipush 24, 2) := by decide +kernel
theorem dX10_keptOf_20 : decode cX10_keptOf 20 = .ok (.if_icmp .ge 60, 3) := by decide +kernel
theorem dX10_keptOf_23 : decode cX10_keptOf 23 = .ok (.lconst 0, 1) := by decide +kernel
theorem dX10_keptOf_24 : decode cX10_keptOf 24 = .ok (.lstore 6, 2) := by decide +kernel
theorem dX10_keptOf_26 : decode cX10_keptOf 26 = .ok (.iconst 0, 1) := by decide +kernel
theorem dX10_keptOf_27 : decode cX10_keptOf 27 = .ok (.istore 8, 2) := by decide +kernel
theorem dX10_keptOf_29 : decode cX10_keptOf 29 = .ok (.iload 8, 2) := by decide +kernel
theorem dX10_keptOf_31 : decode cX10_keptOf 31 = .ok (.bipush 8, 2) := by decide +kernel
theorem dX10_keptOf_33 : decode cX10_keptOf 33 = .ok (.if_icmp .ge 38, 3) := by decide +kernel
theorem dX10_keptOf_36 : decode cX10_keptOf 36 = .ok (.aload_n 0, 1) := by decide +kernel
theorem dX10_keptOf_37 : decode cX10_keptOf 37 = .ok (.iload 5, 2) := by decide +kernel
theorem dX10_keptOf_39 : decode cX10_keptOf 39 = .ok (.invokevirtual 119, 3) := by decide +kernel
theorem dX10_keptOf_42 : decode cX10_keptOf 42 = .ok (.iload 8, 2) := by decide +kernel
theorem dX10_keptOf_44 : decode cX10_keptOf 44 = .ok (.invokestatic 90, 3) := by decide +kernel
theorem dX10_keptOf_47 : decode cX10_keptOf 47 = .ok (.ifCond .eq 18, 3) := by decide +kernel
theorem dX10_keptOf_50 : decode cX10_keptOf 50 = .ok (.lload 6, 2) := by decide +kernel
theorem dX10_keptOf_52 : decode cX10_keptOf 52 = .ok (.aload_n 0, 1) := by decide +kernel
theorem dX10_keptOf_53 : decode cX10_keptOf 53 = .ok (.iload_n 1, 1) := by decide +kernel
theorem dX10_keptOf_54 : decode cX10_keptOf 54 = .ok (.iload 5, 2) := by decide +kernel
theorem dX10_keptOf_56 : decode cX10_keptOf 56 = .ok (.iload 8, 2) := by decide +kernel
theorem dX10_keptOf_58 : decode cX10_keptOf 58 = .ok (.lload_n 3, 1) := by decide +kernel
theorem dX10_keptOf_59 : decode cX10_keptOf 59 = .ok (.invokevirtual 163, 3) := by decide +kernel
theorem dX10_keptOf_62 : decode cX10_keptOf 62 = .ok (.lor, 1) := by decide +kernel
theorem dX10_keptOf_63 : decode cX10_keptOf 63 = .ok (.lstore 6, 2) := by decide +kernel
theorem dX10_keptOf_65 : decode cX10_keptOf 65 = .ok (.iinc 8 1, 3) := by decide +kernel
theorem dX10_keptOf_68 : decode cX10_keptOf 68 = .ok (.goto (-39), 3) := by decide +kernel
theorem dX10_keptOf_71 : decode cX10_keptOf 71 = .ok (.lload 6, 2) := by decide +kernel
theorem dX10_keptOf_73 : decode cX10_keptOf 73 = .ok (.lstore_n 3, 1) := by decide +kernel
theorem dX10_keptOf_74 : decode cX10_keptOf 74 = .ok (.iinc 5 1, 3) := by decide +kernel
theorem dX10_keptOf_77 : decode cX10_keptOf 77 = .ok (.goto (-61), 3) := by decide +kernel
theorem dX10_keptOf_80 : decode cX10_keptOf 80 = .ok (.iconst 0, 1) := by decide +kernel
theorem dX10_keptOf_81 : decode cX10_keptOf 81 = .ok (.istore 5, 2) := by decide +kernel
theorem dX10_keptOf_83 : decode cX10_keptOf 83 = .ok (.iconst 0, 1) := by decide +kernel
theorem dX10_keptOf_84 : decode cX10_keptOf 84 = .ok (.istore 6, 2) := by decide +kernel
theorem dX10_keptOf_86 : decode cX10_keptOf 86 = .ok (.iconst 0, 1) := by decide +kernel
theorem dX10_keptOf_87 : decode cX10_keptOf 87 = .ok (.istore 7, 2) := by decide +kernel
theorem dX10_keptOf_89 : decode cX10_keptOf 89 = .ok (.iload 7, 2) := by decide +kernel
theorem dX10_keptOf_91 : decode cX10_keptOf 91 = .ok (.bipush 64, 2) := by decide +kernel
theorem dX10_keptOf_93 : decode cX10_keptOf 93 = .ok (.if_icmp .ge 86, 3) := by decide +kernel
theorem dX10_keptOf_96 : decode cX10_keptOf 96 = .ok (.lload_n 3, 1) := by decide +kernel
theorem dX10_keptOf_97 : decode cX10_keptOf 97 = .ok (.iload 7, 2) := by decide +kernel
theorem dX10_keptOf_99 : decode cX10_keptOf 99 = .ok (.lushr, 1) := by decide +kernel
theorem dX10_keptOf_100 : decode cX10_keptOf 100 = .ok (.lconst 1, 1) := by decide +kernel
theorem dX10_keptOf_101 : decode cX10_keptOf 101 = .ok (.land, 1) := by decide +kernel
theorem dX10_keptOf_102 : decode cX10_keptOf 102 = .ok (.lconst 1, 1) := by decide +kernel
theorem dX10_keptOf_103 : decode cX10_keptOf 103 = .ok (.lcmp, 1) := by decide +kernel
theorem dX10_keptOf_104 : decode cX10_keptOf 104 = .ok (.ifCond .ne 7, 3) := by decide +kernel
theorem dX10_keptOf_107 : decode cX10_keptOf 107 = .ok (.iconst 1, 1) := by decide +kernel
theorem dX10_keptOf_108 : decode cX10_keptOf 108 = .ok (.goto 4, 3) := by decide +kernel
theorem dX10_keptOf_111 : decode cX10_keptOf 111 = .ok (.iconst 0, 1) := by decide +kernel
theorem dX10_keptOf_112 : decode cX10_keptOf 112 = .ok (.istore 8, 2) := by decide +kernel
theorem dX10_keptOf_114 : decode cX10_keptOf 114 = .ok (.iload 7, 2) := by decide +kernel
theorem dX10_keptOf_116 : decode cX10_keptOf 116 = .ok (.bipush 8, 2) := by decide +kernel
theorem dX10_keptOf_118 : decode cX10_keptOf 118 = .ok (.idiv, 1) := by decide +kernel
theorem dX10_keptOf_119 : decode cX10_keptOf 119 = .ok (.ifCond .ne 7, 3) := by decide +kernel
theorem dX10_keptOf_122 : decode cX10_keptOf 122 = .ok (.iconst 1, 1) := by decide +kernel
theorem dX10_keptOf_123 : decode cX10_keptOf 123 = .ok (.goto 4, 3) := by decide +kernel
theorem dX10_keptOf_126 : decode cX10_keptOf 126 = .ok (.iconst 0, 1) := by decide +kernel
theorem dX10_keptOf_127 : decode cX10_keptOf 127 = .ok (.istore 9, 2) := by decide +kernel
theorem dX10_keptOf_129 : decode cX10_keptOf 129 = .ok (.iload 5, 2) := by decide +kernel
theorem dX10_keptOf_131 : decode cX10_keptOf 131 = .ok (.ifCond .ne 13, 3) := by decide +kernel
theorem dX10_keptOf_134 : decode cX10_keptOf 134 = .ok (.iload 8, 2) := by decide +kernel
theorem dX10_keptOf_136 : decode cX10_keptOf 136 = .ok (.ifCond .eq 12, 3) := by decide +kernel
theorem dX10_keptOf_139 : decode cX10_keptOf 139 = .ok (.iload 9, 2) := by decide +kernel
theorem dX10_keptOf_141 : decode cX10_keptOf 141 = .ok (.ifCond .eq 7, 3) := by decide +kernel
theorem dX10_keptOf_144 : decode cX10_keptOf 144 = .ok (.iconst 1, 1) := by decide +kernel
theorem dX10_keptOf_145 : decode cX10_keptOf 145 = .ok (.goto 4, 3) := by decide +kernel
theorem dX10_keptOf_148 : decode cX10_keptOf 148 = .ok (.iconst 0, 1) := by decide +kernel
theorem dX10_keptOf_149 : decode cX10_keptOf 149 = .ok (.istore 5, 2) := by decide +kernel
theorem dX10_keptOf_151 : decode cX10_keptOf 151 = .ok (.iload 6, 2) := by decide +kernel
theorem dX10_keptOf_153 : decode cX10_keptOf 153 = .ok (.ifCond .ne 13, 3) := by decide +kernel
theorem dX10_keptOf_156 : decode cX10_keptOf 156 = .ok (.iload 8, 2) := by decide +kernel
theorem dX10_keptOf_158 : decode cX10_keptOf 158 = .ok (.ifCond .eq 12, 3) := by decide +kernel
theorem dX10_keptOf_161 : decode cX10_keptOf 161 = .ok (.iload 9, 2) := by decide +kernel
theorem dX10_keptOf_163 : decode cX10_keptOf 163 = .ok (.ifCond .ne 7, 3) := by decide +kernel
theorem dX10_keptOf_166 : decode cX10_keptOf 166 = .ok (.iconst 1, 1) := by decide +kernel
theorem dX10_keptOf_167 : decode cX10_keptOf 167 = .ok (.goto 4, 3) := by decide +kernel
theorem dX10_keptOf_170 : decode cX10_keptOf 170 = .ok (.iconst 0, 1) := by decide +kernel
theorem dX10_keptOf_171 : decode cX10_keptOf 171 = .ok (.istore 6, 2) := by decide +kernel
theorem dX10_keptOf_173 : decode cX10_keptOf 173 = .ok (.iinc 7 1, 3) := by decide +kernel
theorem dX10_keptOf_176 : decode cX10_keptOf 176 = .ok (.goto (-87), 3) := by decide +kernel
theorem dX10_keptOf_179 : decode cX10_keptOf 179 = .ok (.iload 5, 2) := by decide +kernel
theorem dX10_keptOf_181 : decode cX10_keptOf 181 = .ok (.ifCond .ne 12, 3) := by decide +kernel
theorem dX10_keptOf_184 : decode cX10_keptOf 184 = .ok (.iload 6, 2) := by decide +kernel
theorem dX10_keptOf_186 : decode cX10_keptOf 186 = .ok (.ifCond .ne 7, 3) := by decide +kernel
theorem dX10_keptOf_189 : decode cX10_keptOf 189 = .ok (.iconst 3, 1) := by decide +kernel
theorem dX10_keptOf_190 : decode cX10_keptOf 190 = .ok (.goto 22, 3) := by decide +kernel
theorem dX10_keptOf_193 : decode cX10_keptOf 193 = .ok (.iload 6, 2) := by decide +kernel
theorem dX10_keptOf_195 : decode cX10_keptOf 195 = .ok (.ifCond .ne 7, 3) := by decide +kernel
theorem dX10_keptOf_198 : decode cX10_keptOf 198 = .ok (.iconst 0, 1) := by decide +kernel
theorem dX10_keptOf_199 : decode cX10_keptOf 199 = .ok (.goto 13, 3) := by decide +kernel
theorem dX10_keptOf_202 : decode cX10_keptOf 202 = .ok (.iload 5, 2) := by decide +kernel
theorem dX10_keptOf_204 : decode cX10_keptOf 204 = .ok (.ifCond .ne 7, 3) := by decide +kernel
theorem dX10_keptOf_207 : decode cX10_keptOf 207 = .ok (.iconst 2, 1) := by decide +kernel
theorem dX10_keptOf_208 : decode cX10_keptOf 208 = .ok (.goto 4, 3) := by decide +kernel
theorem dX10_keptOf_211 : decode cX10_keptOf 211 = .ok (.iconst 1, 1) := by decide +kernel
theorem dX10_keptOf_212 : decode cX10_keptOf 212 = .ok (.ireturn, 1) := by decide +kernel
theorem dX10_comes_0 : decode cX10_comes 0 = .ok (.lconst 0, 1) := by decide +kernel
theorem dX10_comes_1 : decode cX10_comes 1 = .ok (.lstore 6, 2) := by decide +kernel
theorem dX10_comes_3 : decode cX10_comes 3 = .ok (.iconst 1, 1) := by decide +kernel
theorem dX10_comes_4 : decode cX10_comes 4 = .ok (.iload_n 3, 1) := by decide +kernel
theorem dX10_comes_5 : decode cX10_comes 5 = .ok (.ishl, 1) := by decide +kernel
theorem dX10_comes_6 : decode cX10_comes 6 = .ok (.aload_n 0, 1) := by decide +kernel
theorem dX10_comes_7 : decode cX10_comes 7 = .ok (.getfield 7, 3) := by decide +kernel
theorem dX10_comes_10 : decode cX10_comes 10 = .ok (.iconst 0, 1) := by decide +kernel
theorem dX10_comes_11 : decode cX10_comes 11 = .ok (.iload_n 3, 1) := by decide +kernel
theorem dX10_comes_12 : decode cX10_comes 12 = .ok (.iadd, 1) := by decide +kernel
theorem dX10_comes_13 : decode cX10_comes 13 = .ok (.iaload, 1) := by decide +kernel
theorem dX10_comes_14 : decode cX10_comes 14 = .ok (.ior, 1) := by decide +kernel
theorem dX10_comes_15 : decode cX10_comes 15 = .ok (.istore 8, 2) := by decide +kernel
theorem dX10_comes_17 : decode cX10_comes 17 = .ok (.iconst 0, 1) := by decide +kernel
theorem dX10_comes_18 : decode cX10_comes 18 = .ok (.istore 9, 2) := by decide +kernel
theorem dX10_comes_20 : decode cX10_comes 20 = .ok (.iload 9, 2) := by decide +kernel
theorem dX10_comes_22 : decode cX10_comes 22 = .ok (.bipush 64, 2) := by decide +kernel
theorem dX10_comes_24 : decode cX10_comes 24 = .ok (.if_icmp .ge 163, 3) := by decide +kernel
theorem dX10_comes_27 : decode cX10_comes 27 = .ok (.iload_n 2, 1) := by decide +kernel
theorem dX10_comes_28 : decode cX10_comes 28 = .ok (.ifCond .ne 26, 3) := by decide +kernel
theorem dX10_comes_31 : decode cX10_comes 31 = .ok (.iload 9, 2) := by decide +kernel
theorem dX10_comes_33 : decode cX10_comes 33 = .ok (.bipush 8, 2) := by decide +kernel
theorem dX10_comes_35 : decode cX10_comes 35 = .ok (.aload_n 0, 1) := by decide +kernel
theorem dX10_comes_36 : decode cX10_comes 36 = .ok (.iload_n 1, 1) := by decide +kernel
theorem dX10_comes_37 : decode cX10_comes 37 = .ok (.invokevirtual 148, 3) := by decide +kernel
theorem dX10_comes_40 : decode cX10_comes 40 = .ok (.imul, 1) := by decide +kernel
theorem dX10_comes_41 : decode cX10_comes 41 = .ok (.iload_n 3, 1) := by decide +kernel
theorem dX10_comes_42 : decode cX10_comes 42 = .ok (.iadd, 1) := by decide +kernel
theorem dX10_comes_43 : decode cX10_comes 43 = .ok (.if_icmp .ne 7, 3) := by decide +kernel
theorem dX10_comes_46 : decode cX10_comes 46 = .ok (.iconst 1, 1) := by decide +kernel
theorem dX10_comes_47 : decode cX10_comes 47 = .ok (.goto 37, 3) := by decide +kernel
theorem dX10_comes_50 : decode cX10_comes 50 = .ok (.iconst 0, 1) := by decide +kernel
theorem dX10_comes_51 : decode cX10_comes 51 = .ok (.goto 33, 3) := by decide +kernel
theorem dX10_comes_54 : decode cX10_comes 54 = .ok (.lload 4, 2) := by decide +kernel
theorem dX10_comes_56 : decode cX10_comes 56 = .ok (.iload 9, 2) := by decide +kernel
theorem dX10_comes_58 : decode cX10_comes 58 = .ok (.lushr, 1) := by decide +kernel
theorem dX10_comes_59 : decode cX10_comes 59 = .ok (.lconst 1, 1) := by decide +kernel
theorem dX10_comes_60 : decode cX10_comes 60 = .ok (.land, 1) := by decide +kernel
theorem dX10_comes_61 : decode cX10_comes 61 = .ok (.lconst 1, 1) := by decide +kernel
theorem dX10_comes_62 : decode cX10_comes 62 = .ok (.lcmp, 1) := by decide +kernel
theorem dX10_comes_63 : decode cX10_comes 63 = .ok (.ifCond .ne 20, 3) := by decide +kernel
theorem dX10_comes_66 : decode cX10_comes 66 = .ok (.iload 8, 2) := by decide +kernel
theorem dX10_comes_68 : decode cX10_comes 68 = .ok (.iload 9, 2) := by decide +kernel
theorem dX10_comes_70 : decode cX10_comes 70 = .ok (.bipush 8, 2) := by decide +kernel
theorem dX10_comes_72 : decode cX10_comes 72 = .ok (.irem, 1) := by decide +kernel
theorem dX10_comes_73 : decode cX10_comes 73 = .ok (.invokestatic 90, 3) := by decide +kernel
theorem dX10_comes_76 : decode cX10_comes 76 = .ok (.ifCond .eq 7, 3) := by decide +kernel
theorem dX10_comes_79 : decode cX10_comes 79 = .ok (.iconst 1, 1) := by decide +kernel
theorem dX10_comes_80 : decode cX10_comes 80 = .ok (.goto 4, 3) := by decide +kernel
theorem dX10_comes_83 : decode cX10_comes 83 = .ok (.iconst 0, 1) := by decide +kernel
theorem dX10_comes_84 : decode cX10_comes 84 = .ok (.istore 10, 2) := by decide +kernel
theorem dX10_comes_86 : decode cX10_comes 86 = .ok (.iload 10, 2) := by decide +kernel
theorem dX10_comes_88 : decode cX10_comes 88 = .ok (.ifCond .eq 93, 3) := by decide +kernel
theorem dX10_comes_91 : decode cX10_comes 91 = .ok (.iload 9, 2) := by decide +kernel
theorem dX10_comes_93 : decode cX10_comes 93 = .ok (.bipush 8, 2) := by decide +kernel
theorem dX10_comes_95 : decode cX10_comes 95 = .ok (.idiv, 1) := by decide +kernel
theorem dX10_comes_96 : decode cX10_comes 96 = .ok (.iconst 4, 1) := by decide +kernel
theorem dX10_comes_97 : decode cX10_comes 97 = .ok (.irem, 1) := by decide +kernel
theorem dX10_comes_98 : decode cX10_comes 98 = .ok (.istore 11, 2) := by decide +kernel
theorem dX10_comes_100 : decode cX10_comes 100 = .ok (.iload 9, 2) := by decide +kernel
theorem dX10_comes_102 : decode cX10_comes 102 = .ok (.bipush 32, 2) := by decide +kernel
theorem dX10_comes_104 : decode cX10_comes 104 = .ok (.idiv, 1) := by decide +kernel
theorem dX10_comes_105 : decode cX10_comes 105 = .ok (.istore 12, 2) := by decide +kernel
theorem dX10_comes_107 : decode cX10_comes 107 = .ok (.aload_n 0, 1) := by decide +kernel
theorem dX10_comes_108 : decode cX10_comes 108 = .ok (.iload_n 1, 1) := by decide +kernel
theorem dX10_comes_109 : decode cX10_comes 109 = .ok (.iload_n 2, 1) := by decide +kernel
theorem dX10_comes_110 : decode cX10_comes 110 = .ok (.invokevirtual 167, 3) := by decide +kernel
theorem dX10_comes_113 : decode cX10_comes 113 = .ok (.ifCond .eq 48, 3) := by decide +kernel
theorem dX10_comes_116 : decode cX10_comes 116 = .ok (.iload 11, 2) := by decide +kernel
theorem dX10_comes_118 : decode cX10_comes 118 = .ok (.iload 11, 2) := by decide +kernel
theorem dX10_comes_120 : decode cX10_comes 120 = .ok (.ifCond .le 17, 3) := by decide +kernel
theorem dX10_comes_123 : decode cX10_comes 123 = .ok (.iload_n 3, 1) := by decide +kernel
theorem dX10_comes_124 : decode cX10_comes 124 = .ok (.aload_n 0, 1) := by decide +kernel
theorem dX10_comes_125 : decode cX10_comes 125 = .ok (.iload_n 1, 1) := by decide +kernel
theorem dX10_comes_126 : decode cX10_comes 126 = .ok (.iconst 2, 1) := by decide +kernel
theorem dX10_comes_127 : decode cX10_comes 127 = .ok (.invokevirtual 131, 3) := by decide +kernel
theorem dX10_comes_130 : decode cX10_comes 130 = .ok (.if_icmp .ne 7, 3) := by decide +kernel
theorem dX10_comes_133 : decode cX10_comes 133 = .ok (.iconst 1, 1) := by decide +kernel
theorem dX10_comes_134 : decode cX10_comes 134 = .ok (.goto 4, 3) := by decide +kernel
theorem dX10_comes_137 : decode cX10_comes 137 = .ok (.iconst 0, 1) := by decide +kernel
theorem dX10_comes_138 : decode cX10_comes 138 = .ok (.isub, 1) := by decide +kernel
theorem dX10_comes_139 : decode cX10_comes 139 = .ok (.istore 11, 2) := by decide +kernel
theorem dX10_comes_141 : decode cX10_comes 141 = .ok (.aload_n 0, 1) := by decide +kernel
theorem dX10_comes_142 : decode cX10_comes 142 = .ok (.iload_n 1, 1) := by decide +kernel
theorem dX10_comes_143 : decode cX10_comes 143 = .ok (.invokevirtual 154, 3) := by decide +kernel
theorem dX10_comes_146 : decode cX10_comes 146 = .ok (.iload_n 3, 1) := by decide +kernel
theorem dX10_comes_147 : decode cX10_comes 147 = .ok (.invokestatic 90, 3) := by decide +kernel
theorem dX10_comes_150 : decode cX10_comes 150 = .ok (.ifCond .eq 7, 3) := by decide +kernel
theorem dX10_comes_153 : decode cX10_comes 153 = .ok (.iconst 1, 1) := by decide +kernel
theorem dX10_comes_154 : decode cX10_comes 154 = .ok (.goto 5, 3) := by decide +kernel
theorem dX10_comes_157 : decode cX10_comes 157 = .ok (.iload 12, 2) := by decide +kernel
theorem dX10_comes_159 : decode cX10_comes 159 = .ok (.istore 12, 2) := by decide +kernel
theorem dX10_comes_161 : decode cX10_comes 161 = .ok (.lload 6, 2) := by decide +kernel
theorem dX10_comes_163 : decode cX10_comes 163 = .ok (.lconst 1, 1) := by decide +kernel
theorem dX10_comes_164 : decode cX10_comes 164 = .ok (.bipush 32, 2) := by decide +kernel
theorem dX10_comes_166 : decode cX10_comes 166 = .ok (.iload 12, 2) := by decide +kernel
theorem dX10_comes_168 : decode cX10_comes 168 = .ok (.imul, 1) := by decide +kernel
theorem dX10_comes_169 : decode cX10_comes 169 = .ok (.bipush 8, 2) := by decide +kernel
theorem dX10_comes_171 : decode cX10_comes 171 = .ok (.iload 11, 2) := by decide +kernel
theorem dX10_comes_173 : decode cX10_comes 173 = .ok (.imul, 1) := by decide +kernel
theorem dX10_comes_174 : decode cX10_comes 174 = .ok (.iadd, 1) := by decide +kernel
theorem dX10_comes_175 : decode cX10_comes 175 = .ok (.iload_n 3, 1) := by decide +kernel
theorem dX10_comes_176 : decode cX10_comes 176 = .ok (.iadd, 1) := by decide +kernel
theorem dX10_comes_177 : decode cX10_comes 177 = .ok (.lshl, 1) := by decide +kernel
theorem dX10_comes_178 : decode cX10_comes 178 = .ok (.lor, 1) := by decide +kernel
theorem dX10_comes_179 : decode cX10_comes 179 = .ok (.lstore 6, 2) := by decide +kernel
theorem dX10_comes_181 : decode cX10_comes 181 = .ok (.iinc 9 1, 3) := by decide +kernel
theorem dX10_comes_184 : decode cX10_comes 184 = .ok (.goto (-164), 3) := by decide +kernel
theorem dX10_comes_187 : decode cX10_comes 187 = .ok (.lload 6, 2) := by decide +kernel
theorem dX10_comes_189 : decode cX10_comes 189 = .ok (.lreturn, 1) := by decide +kernel
theorem dX10_kept_0 : decode cX10_kept 0 = .ok (.aload_n 0, 1) := by decide +kernel
theorem dX10_kept_1 : decode cX10_kept 1 = .ok (.iload_n 1, 1) := by decide +kernel
theorem dX10_kept_2 : decode cX10_kept 2 = .ok (.invokevirtual 145, 3) := by decide +kernel
theorem dX10_kept_5 : decode cX10_kept 5 = .ok (.ifCond .eq 10, 3) := by decide +kernel
theorem dX10_kept_8 : decode cX10_kept 8 = .ok (.iload_n 2, 1) := by decide +kernel
theorem dX10_kept_9 : decode cX10_kept 9 = .ok (.invokestatic 122, 3) := by decide +kernel
theorem dX10_kept_12 : decode cX10_kept 12 = .ok (.ifCond .ne 10, 3) := by decide +kernel
theorem dX10_kept_15 : decode cX10_kept 15 = .ok (.aload_n 0, 1) := by decide +kernel
theorem dX10_kept_16 : decode cX10_kept 16 = .ok (.ldc 68, 2) := by decide +kernel
theorem dX10_kept_18 : decode cX10_kept 18 = .ok (.invokevirtual 86, 3) := by decide +kernel
theorem dX10_kept_21 : decode cX10_kept 21 = .ok (.ireturn, 1) := by decide +kernel
theorem dX10_kept_22 : decode cX10_kept 22 = .ok (.aload_n 0, 1) := by decide +kernel
theorem dX10_kept_23 : decode cX10_kept 23 = .ok (.iload_n 1, 1) := by decide +kernel
theorem dX10_kept_24 : decode cX10_kept 24 = .ok (.iload_n 2, 1) := by decide +kernel
theorem dX10_kept_25 : decode cX10_kept 25 = .ok (.invokevirtual 157, 3) := by decide +kernel
theorem dX10_kept_28 : decode cX10_kept 28 = .ok (.ifCond .eq 12, 3) := by decide +kernel
theorem dX10_kept_31 : decode cX10_kept 31 = .ok (.aload_n 0, 1) := by decide +kernel
theorem dX10_kept_32 : decode cX10_kept 32 = .ok (.iload_n 1, 1) := by decide +kernel
theorem dX10_kept_33 : decode cX10_kept 33 = .ok (.iload_n 2, 1) := by decide +kernel
theorem dX10_kept_34 : decode cX10_kept 34 = .ok (.invokevirtual 170, 3) := by decide +kernel
theorem dX10_kept_37 : decode cX10_kept 37 = .ok (.goto 9, 3) := by decide +kernel
theorem dX10_kept_40 : decode cX10_kept 40 = .ok (.aload_n 0, 1) := by decide +kernel
theorem dX10_kept_41 : decode cX10_kept 41 = .ok (.ldc 97, 2) := by decide +kernel
theorem dX10_kept_43 : decode cX10_kept 43 = .ok (.invokevirtual 86, 3) := by decide +kernel
theorem dX10_kept_46 : decode cX10_kept 46 = .ok (.ireturn, 1) := by decide +kernel
theorem dX10_count_0 : decode cX10_count 0 = .ok (.aload_n 0, 1) := by decide +kernel
theorem dX10_count_1 : decode cX10_count 1 = .ok (.iload_n 1, 1) := by decide +kernel
theorem dX10_count_2 : decode cX10_count 2 = .ok (.invokevirtual 145, 3) := by decide +kernel
theorem dX10_count_5 : decode cX10_count 5 = .ok (.ifCond .eq 35, 3) := by decide +kernel
theorem dX10_count_8 : decode cX10_count 8 = .ok (.iload_n 2, 1) := by decide +kernel
theorem dX10_count_9 : decode cX10_count 9 = .ok (.invokestatic 122, 3) := by decide +kernel
theorem dX10_count_12 : decode cX10_count 12 = .ok (.ifCond .eq 28, 3) := by decide +kernel
theorem dX10_count_15 : decode cX10_count 15 = .ok (.iload_n 3, 1) := by decide +kernel
theorem dX10_count_16 : decode cX10_count 16 = .ok (.invokestatic 122, 3) := by decide +kernel
theorem dX10_count_19 : decode cX10_count 19 = .ok (.ifCond .eq 21, 3) := by decide +kernel
theorem dX10_count_22 : decode cX10_count 22 = .ok (.iload_n 3, 1) := by decide +kernel
theorem dX10_count_23 : decode cX10_count 23 = .ok (.iload_n 2, 1) := by decide +kernel
theorem dX10_count_24 : decode cX10_count 24 = .ok (.if_icmp .lt 16, 3) := by decide +kernel
theorem dX10_count_27 : decode cX10_count 27 = .ok (.iload 4, 2) := by decide +kernel
theorem dX10_count_29 : decode cX10_count 29 = .ok (.i2l, 1) := by decide +kernel
theorem dX10_count_30 : decode cX10_count 30 = .ok (.lconst 0, 1) := by decide +kernel
theorem dX10_count_31 : decode cX10_count 31 = .ok (.ldc2_w 173, 3) := by decide +kernel
theorem dX10_count_34 : decode cX10_count 34 = .ok (.invokestatic 71, 3) := by decide +kernel
theorem dX10_count_37 : decode cX10_count 37 = .ok (.ifCond .ne 10, 3) := by decide +kernel
theorem dX10_count_40 : decode cX10_count 40 = .ok (.aload_n 0, 1) := by decide +kernel
theorem dX10_count_41 : decode cX10_count 41 = .ok (.ldc 68, 2) := by decide +kernel
theorem dX10_count_43 : decode cX10_count 43 = .ok (.invokevirtual 86, 3) := by decide +kernel
theorem dX10_count_46 : decode cX10_count 46 = .ok (.ireturn, 1) := by decide +kernel
theorem dX10_count_47 : decode cX10_count 47 = .ok (.iconst 0, 1) := by decide +kernel
theorem dX10_count_48 : decode cX10_count 48 = .ok (.istore 5, 2) := by decide +kernel
theorem dX10_count_50 : decode cX10_count 50 = .ok (.iload_n 2, 1) := by decide +kernel
theorem dX10_count_51 : decode cX10_count 51 = .ok (.istore 6, 2) := by decide +kernel
theorem dX10_count_53 : decode cX10_count 53 = .ok (.iload 6, 2) := by decide +kernel
theorem dX10_count_55 : decode cX10_count 55 = .ok (.iload_n 3, 1) := by decide +kernel
theorem dX10_count_56 : decode cX10_count 56 = .ok (.if_icmp .gt 41, 3) := by decide +kernel
theorem dX10_count_59 : decode cX10_count 59 = .ok (.iload 5, 2) := by decide +kernel
theorem dX10_count_61 : decode cX10_count 61 = .ok (.aload_n 0, 1) := by decide +kernel
theorem dX10_count_62 : decode cX10_count 62 = .ok (.iload_n 1, 1) := by decide +kernel
theorem dX10_count_63 : decode cX10_count 63 = .ok (.iload 6, 2) := by decide +kernel
theorem dX10_count_65 : decode cX10_count 65 = .ok (.invokevirtual 157, 3) := by decide +kernel
theorem dX10_count_68 : decode cX10_count 68 = .ok (.ifCond .eq 19, 3) := by decide +kernel
theorem dX10_count_71 : decode cX10_count 71 = .ok (.aload_n 0, 1) := by decide +kernel
theorem dX10_count_72 : decode cX10_count 72 = .ok (.iload_n 1, 1) := by decide +kernel
theorem dX10_count_73 : decode cX10_count 73 = .ok (.iload 6, 2) := by decide +kernel
theorem dX10_count_75 : decode cX10_count 75 = .ok (.invokevirtual 170, 3) := by decide +kernel
theorem dX10_count_78 : decode cX10_count 78 = .ok (.iload 4, 2) := by decide +kernel
theorem dX10_count_80 : decode cX10_count 80 = .ok (.if_icmp .ne 7, 3) := by decide +kernel
theorem dX10_count_83 : decode cX10_count 83 = .ok (.iconst 1, 1) := by decide +kernel
theorem dX10_count_84 : decode cX10_count 84 = .ok (.goto 4, 3) := by decide +kernel
theorem dX10_count_87 : decode cX10_count 87 = .ok (.iconst 0, 1) := by decide +kernel
theorem dX10_count_88 : decode cX10_count 88 = .ok (.iadd, 1) := by decide +kernel
theorem dX10_count_89 : decode cX10_count 89 = .ok (.istore 5, 2) := by decide +kernel
theorem dX10_count_91 : decode cX10_count 91 = .ok (.iinc 6 1, 3) := by decide +kernel
theorem dX10_count_94 : decode cX10_count 94 = .ok (.goto (-41), 3) := by decide +kernel
theorem dX10_count_97 : decode cX10_count 97 = .ok (.iload 5, 2) := by decide +kernel
theorem dX10_count_99 : decode cX10_count 99 = .ok (.ireturn, 1) := by decide +kernel
theorem dX10_breach_0 : decode cX10_breach 0 = .ok (.iload_n 1, 1) := by decide +kernel
theorem dX10_breach_1 : decode cX10_breach 1 = .ok (.invokestatic 98, 3) := by decide +kernel
theorem dX10_breach_4 : decode cX10_breach 4 = .ok (.ifCond .eq 10, 3) := by decide +kernel
theorem dX10_breach_7 : decode cX10_breach 7 = .ok (.iload_n 2, 1) := by decide +kernel
theorem dX10_breach_8 : decode cX10_breach 8 = .ok (.invokestatic 122, 3) := by decide +kernel
theorem dX10_breach_11 : decode cX10_breach 11 = .ok (.ifCond .ne 10, 3) := by decide +kernel
theorem dX10_breach_14 : decode cX10_breach 14 = .ok (.aload_n 0, 1) := by decide +kernel
theorem dX10_breach_15 : decode cX10_breach 15 = .ok (.ldc 68, 2) := by decide +kernel
theorem dX10_breach_17 : decode cX10_breach 17 = .ok (.invokevirtual 86, 3) := by decide +kernel
theorem dX10_breach_20 : decode cX10_breach 20 = .ok (.ireturn, 1) := by decide +kernel
theorem dX10_breach_21 : decode cX10_breach 21 = .ok (.iload_n 2, 1) := by decide +kernel
theorem dX10_breach_22 : decode cX10_breach 22 = .ok (.istore_n 3, 1) := by decide +kernel
theorem dX10_breach_23 : decode cX10_breach 23 = .ok (.iload_n 3, 1) := by decide +kernel
theorem dX10_breach_24 : decode cX10_breach 24 = .ok (.bipush 30, 2) := by decide +kernel
theorem dX10_breach_26 : decode cX10_breach 26 = .ok (.if_icmp .ge 62, 3) := by decide +kernel
theorem dX10_breach_29 : decode cX10_breach 29 = .ok (.aload_n 0, 1) := by decide +kernel
theorem dX10_breach_30 : decode cX10_breach 30 = .ok (.iload_n 1, 1) := by decide +kernel
theorem dX10_breach_31 : decode cX10_breach 31 = .ok (.iload_n 3, 1) := by decide +kernel
theorem dX10_breach_32 : decode cX10_breach 32 = .ok (.invokevirtual 160, 3) := by decide +kernel
theorem dX10_breach_35 : decode cX10_breach 35 = .ok (.istore 4, 2) := by decide +kernel
theorem dX10_breach_37 : decode cX10_breach 37 = .ok (.iconst 0, 1) := by decide +kernel
theorem dX10_breach_38 : decode cX10_breach 38 = .ok (.istore 5, 2) := by decide +kernel
theorem dX10_breach_40 : decode cX10_breach 40 = .ok (.iload 5, 2) := by decide +kernel
theorem dX10_breach_42 : decode cX10_breach 42 = .ok (.aload_n 0, 1) := by decide +kernel
theorem dX10_breach_43 : decode cX10_breach 43 = .ok (.getfield 7, 3) := by decide +kernel
theorem dX10_breach_46 : decode cX10_breach 46 = .ok (.sipush 189, 3) := by decide +kernel
theorem dX10_breach_49 : decode cX10_breach 49 = .ok (.iaload, 1) := by decide +kernel
theorem dX10_breach_50 : decode cX10_breach 50 = .ok (.if_icmp .ge 32, 3) := by decide +kernel
theorem dX10_breach_53 : decode cX10_breach 53 = .ok (.iload 4, 2) := by decide +kernel
theorem dX10_breach_55 : decode cX10_breach 55 = .ok (.iload 5, 2) := by decide +kernel
theorem dX10_breach_57 : decode cX10_breach 57 = .ok (.invokestatic 90, 3) := by decide +kernel
theorem dX10_breach_60 : decode cX10_breach 60 = .ok (.ifCond .eq 16, 3) := by decide +kernel
theorem dX10_breach_63 : decode cX10_breach 63 = .ok (.aload_n 0, 1) := by decide +kernel
theorem dX10_breach_64 : decode cX10_breach 64 = .ok (.iload 5, 2) := by decide +kernel
theorem dX10_breach_66 : decode cX10_breach 66 = .ok (.iload_n 3, 1) := by decide +kernel
theorem dX10_breach_67 : decode cX10_breach 67 = .ok (.invokevirtual 170, 3) := by decide +kernel
theorem dX10_breach_70 : decode cX10_breach 70 = .ok (.iconst 2, 1) := by decide +kernel
theorem dX10_breach_71 : decode cX10_breach 71 = .ok (.if_icmp .ne 5, 3) := by decide +kernel
theorem dX10_breach_74 : decode cX10_breach 74 = .ok (.iload_n 3, 1) := by decide +kernel
theorem dX10_breach_75 : decode cX10_breach 75 = .ok (.ireturn, 1) := by decide +kernel
theorem dX10_breach_76 : decode cX10_breach 76 = .ok (.iinc 5 1, 3) := by decide +kernel
theorem dX10_breach_79 : decode cX10_breach 79 = .ok (.goto (-39), 3) := by decide +kernel
theorem dX10_breach_82 : decode cX10_breach 82 = .ok (.iinc 3 1, 3) := by decide +kernel
theorem dX10_breach_85 : decode cX10_breach 85 = .ok (.goto (-62), 3) := by decide +kernel
theorem dX10_breach_88 : decode cX10_breach 88 = .ok (.aload_n 0, 1) := by decide +kernel
theorem dX10_breach_89 : decode cX10_breach 89 = .ok (.ldc 97, 2) := by decide +kernel
theorem dX10_breach_91 : decode cX10_breach 91 = .ok (.invokevirtual 86, 3) := by decide +kernel
theorem dX10_breach_94 : decode cX10_breach 94 = .ok (.ireturn, 1) := by decide +kernel
theorem dX10_binds_0 : decode cX10_binds 0 = .ok (.aload_n 0, 1) := by decide +kernel
theorem dX10_binds_1 : decode cX10_binds 1 = .ok (.iload_n 1, 1) := by decide +kernel
theorem dX10_binds_2 : decode cX10_binds 2 = .ok (.iload_n 2, 1) := by decide +kernel
theorem dX10_binds_3 : decode cX10_binds 3 = .ok (.invokevirtual 115, 3) := by decide +kernel
theorem dX10_binds_6 : decode cX10_binds 6 = .ok (.aload_n 0, 1) := by decide +kernel
theorem dX10_binds_7 : decode cX10_binds 7 = .ok (.iconst 0, 1) := by decide +kernel
theorem dX10_binds_8 : decode cX10_binds 8 = .ok (.putfield 175, 3) := by decide +kernel
theorem dX10_binds_11 : decode cX10_binds 11 = .ok (.aload_n 0, 1) := by decide +kernel
theorem dX10_binds_12 : decode cX10_binds 12 = .ok (.iconst 1, 1) := by decide +kernel
theorem dX10_binds_13 : decode cX10_binds 13 = .ok (.putfield 179, 3) := by decide +kernel
theorem dX10_binds_16 : decode cX10_binds 16 = .ok (.aload_n 0, 1) := by decide +kernel
theorem dX10_binds_17 : decode cX10_binds 17 = .ok (.iconst 0, 1) := by decide +kernel
theorem dX10_binds_18 : decode cX10_binds 18 = .ok (.putfield 182, 3) := by decide +kernel
theorem dX10_binds_21 : decode cX10_binds 21 = .ok (.aload_n 0, 1) := by decide +kernel
theorem dX10_binds_22 : decode cX10_binds 22 = .ok (.iload_n 1, 1) := by decide +kernel
theorem dX10_binds_23 : decode cX10_binds 23 = .ok (.iload_n 2, 1) := by decide +kernel
theorem dX10_binds_24 : decode cX10_binds 24 = .ok (.invokevirtual 160, 3) := by decide +kernel
theorem dX10_binds_27 : decode cX10_binds 27 = .ok (.istore 4, 2) := by decide +kernel
theorem dX10_binds_29 : decode cX10_binds 29 = .ok (.iconst 0, 1) := by decide +kernel
theorem dX10_binds_30 : decode cX10_binds 30 = .ok (.istore 5, 2) := by decide +kernel
theorem dX10_binds_32 : decode cX10_binds 32 = .ok (.iload 5, 2) := by decide +kernel
theorem dX10_binds_34 : decode cX10_binds 34 = .ok (.aload_n 0, 1) := by decide +kernel
theorem dX10_binds_35 : decode cX10_binds 35 = .ok (.getfield 7, 3) := by decide +kernel
theorem dX10_binds_38 : decode cX10_binds 38 = .ok (.sipush 189, 3) := by decide +kernel
theorem dX10_binds_41 : decode cX10_binds 41 = .ok (.iaload, 1) := by decide +kernel
theorem dX10_binds_42 : decode cX10_binds 42 = .ok (.if_icmp .ge 113, 3) := by decide +kernel
theorem dX10_binds_45 : decode cX10_binds 45 = .ok (.iload 4, 2) := by decide +kernel
theorem dX10_binds_47 : decode cX10_binds 47 = .ok (.iload 5, 2) := by decide +kernel
theorem dX10_binds_49 : decode cX10_binds 49 = .ok (.invokestatic 90, 3) := by decide +kernel
theorem dX10_binds_52 : decode cX10_binds 52 = .ok (.ifCond .eq 97, 3) := by decide +kernel
theorem dX10_binds_55 : decode cX10_binds 55 = .ok (.iload 5, 2) := by decide +kernel
theorem dX10_binds_57 : decode cX10_binds 57 = .ok (.iload_n 3, 1) := by decide +kernel
theorem dX10_binds_58 : decode cX10_binds 58 = .ok (.if_icmp .eq 91, 3) := by decide +kernel
theorem dX10_binds_61 : decode cX10_binds 61 = .ok (.aload_n 0, 1) := by decide +kernel
theorem dX10_binds_62 : decode cX10_binds 62 = .ok (.getfield 25, 3) := by decide +kernel
theorem dX10_binds_65 : decode cX10_binds 65 = .ok (.aload_n 0, 1) := by decide +kernel
theorem dX10_binds_66 : decode cX10_binds 66 = .ok (.getfield 175, 3) := by decide +kernel
theorem dX10_binds_69 : decode cX10_binds 69 = .ok (.iload 5, 2) := by decide +kernel
theorem dX10_binds_71 : decode cX10_binds 71 = .ok (.iastore, 1) := by decide +kernel
theorem dX10_binds_72 : decode cX10_binds 72 = .ok (.aload_n 0, 1) := by decide +kernel
theorem dX10_binds_73 : decode cX10_binds 73 = .ok (.getfield 28, 3) := by decide +kernel
theorem dX10_binds_76 : decode cX10_binds 76 = .ok (.aload_n 0, 1) := by decide +kernel
theorem dX10_binds_77 : decode cX10_binds 77 = .ok (.getfield 175, 3) := by decide +kernel
theorem dX10_binds_80 : decode cX10_binds 80 = .ok (.aload_n 0, 1) := by decide +kernel
theorem dX10_binds_81 : decode cX10_binds 81 = .ok (.iload 5, 2) := by decide +kernel
theorem dX10_binds_83 : decode cX10_binds 83 = .ok (.invokevirtual 148, 3) := by decide +kernel
theorem dX10_binds_86 : decode cX10_binds 86 = .ok (.iconst 1, 1) := by decide +kernel
theorem dX10_binds_87 : decode cX10_binds 87 = .ok (.iadd, 1) := by decide +kernel
theorem dX10_binds_88 : decode cX10_binds 88 = .ok (.iastore, 1) := by decide +kernel
theorem dX10_binds_89 : decode cX10_binds 89 = .ok (.aload_n 0, 1) := by decide +kernel
theorem dX10_binds_90 : decode cX10_binds 90 = .ok (.getfield 31, 3) := by decide +kernel
theorem dX10_binds_93 : decode cX10_binds 93 = .ok (.aload_n 0, 1) := by decide +kernel
theorem dX10_binds_94 : decode cX10_binds 94 = .ok (.getfield 175, 3) := by decide +kernel
theorem dX10_binds_97 : decode cX10_binds 97 = .ok (.aload_n 0, 1) := by decide +kernel
theorem dX10_binds_98 : decode cX10_binds 98 = .ok (.getfield 179, 3) := by decide +kernel
theorem dX10_binds_101 : decode cX10_binds 101 = .ok (.iastore, 1) := by decide +kernel
theorem dX10_binds_102 : decode cX10_binds 102 = .ok (.aload_n 0, 1) := by decide +kernel
theorem dX10_binds_103 : decode cX10_binds 103 = .ok (.dup, 1) := by decide +kernel
theorem dX10_binds_104 : decode cX10_binds 104 = .ok (.getfield 182, 3) := by decide +kernel
theorem dX10_binds_107 : decode cX10_binds 107 = .ok (.aload_n 0, 1) := by decide +kernel
theorem dX10_binds_108 : decode cX10_binds 108 = .ok (.iload 5, 2) := by decide +kernel
theorem dX10_binds_110 : decode cX10_binds 110 = .ok (.invokevirtual 148, 3) := by decide +kernel
theorem dX10_binds_113 : decode cX10_binds 113 = .ok (.aload_n 0, 1) := by decide +kernel
theorem dX10_binds_114 : decode cX10_binds 114 = .ok (.getfield 179, 3) := by decide +kernel
theorem dX10_binds_117 : decode cX10_binds 117 = .ok (.imul, 1) := by decide +kernel
theorem dX10_binds_118 : decode cX10_binds 118 = .ok (.iadd, 1) := by decide +kernel
theorem dX10_binds_119 : decode cX10_binds 119 = .ok (.putfield 182, 3) := by decide +kernel
theorem dX10_binds_122 : decode cX10_binds 122 = .ok (.aload_n 0, 1) := by decide +kernel
theorem dX10_binds_123 : decode cX10_binds 123 = .ok (.aload_n 0, 1) := by decide +kernel
theorem dX10_binds_124 : decode cX10_binds 124 = .ok (.getfield 179, 3) := by decide +kernel
theorem dX10_binds_127 : decode cX10_binds 127 = .ok (.aload_n 0, 1) := by decide +kernel
theorem dX10_binds_128 : decode cX10_binds 128 = .ok (.iload 5, 2) := by decide +kernel
theorem dX10_binds_130 : decode cX10_binds 130 = .ok (.invokevirtual 148, 3) := by decide +kernel
theorem dX10_binds_133 : decode cX10_binds 133 = .ok (.iconst 1, 1) := by decide +kernel
theorem dX10_binds_134 : decode cX10_binds 134 = .ok (.iadd, 1) := by decide +kernel
theorem dX10_binds_135 : decode cX10_binds 135 = .ok (.imul, 1) := by decide +kernel
theorem dX10_binds_136 : decode cX10_binds 136 = .ok (.putfield 179, 3) := by decide +kernel
theorem dX10_binds_139 : decode cX10_binds 139 = .ok (.aload_n 0, 1) := by decide +kernel
theorem dX10_binds_140 : decode cX10_binds 140 = .ok (.dup, 1) := by decide +kernel
theorem dX10_binds_141 : decode cX10_binds 141 = .ok (.getfield 175, 3) := by decide +kernel
theorem dX10_binds_144 : decode cX10_binds 144 = .ok (.iconst 1, 1) := by decide +kernel
theorem dX10_binds_145 : decode cX10_binds 145 = .ok (.iadd, 1) := by decide +kernel
theorem dX10_binds_146 : decode cX10_binds 146 = .ok (.putfield 175, 3) := by decide +kernel
theorem dX10_binds_149 : decode cX10_binds 149 = .ok (.iinc 5 1, 3) := by decide +kernel
theorem dX10_binds_152 : decode cX10_binds 152 = .ok (.goto (-120), 3) := by decide +kernel
theorem dX10_binds_155 : decode cX10_binds 155 = .ok (.return_, 1) := by decide +kernel
theorem dX10_lawful_0 : decode cX10_lawful 0 = .ok (.aload_n 0, 1) := by decide +kernel
theorem dX10_lawful_1 : decode cX10_lawful 1 = .ok (.iload_n 1, 1) := by decide +kernel
theorem dX10_lawful_2 : decode cX10_lawful 2 = .ok (.invokevirtual 119, 3) := by decide +kernel
theorem dX10_lawful_5 : decode cX10_lawful 5 = .ok (.istore_n 2, 1) := by decide +kernel
theorem dX10_lawful_6 : decode cX10_lawful 6 = .ok (.iconst 0, 1) := by decide +kernel
theorem dX10_lawful_7 : decode cX10_lawful 7 = .ok (.istore_n 3, 1) := by decide +kernel
theorem dX10_lawful_8 : decode cX10_lawful 8 = .ok (.iload_n 3, 1) := by decide +kernel
theorem dX10_lawful_9 : decode cX10_lawful 9 = .ok (.aload_n 0, 1) := by decide +kernel
theorem dX10_lawful_10 : decode cX10_lawful 10 = .ok (.getfield 175, 3) := by decide +kernel
theorem dX10_lawful_13 : decode cX10_lawful 13 = .ok (.if_icmp .ge 42, 3) := by decide +kernel
theorem dX10_lawful_16 : decode cX10_lawful 16 = .ok (.iload_n 2, 1) := by decide +kernel
theorem dX10_lawful_17 : decode cX10_lawful 17 = .ok (.aload_n 0, 1) := by decide +kernel
theorem dX10_lawful_18 : decode cX10_lawful 18 = .ok (.aload_n 0, 1) := by decide +kernel
theorem dX10_lawful_19 : decode cX10_lawful 19 = .ok (.getfield 25, 3) := by decide +kernel
theorem dX10_lawful_22 : decode cX10_lawful 22 = .ok (.iload_n 3, 1) := by decide +kernel
theorem dX10_lawful_23 : decode cX10_lawful 23 = .ok (.iaload, 1) := by decide +kernel
theorem dX10_lawful_24 : decode cX10_lawful 24 = .ok (.iload_n 1, 1) := by decide +kernel
theorem dX10_lawful_25 : decode cX10_lawful 25 = .ok (.invokevirtual 167, 3) := by decide +kernel
theorem dX10_lawful_28 : decode cX10_lawful 28 = .ok (.ifCond .eq 18, 3) := by decide +kernel
theorem dX10_lawful_31 : decode cX10_lawful 31 = .ok (.aload_n 0, 1) := by decide +kernel
theorem dX10_lawful_32 : decode cX10_lawful 32 = .ok (.aload_n 0, 1) := by decide +kernel
theorem dX10_lawful_33 : decode cX10_lawful 33 = .ok (.getfield 25, 3) := by decide +kernel
theorem dX10_lawful_36 : decode cX10_lawful 36 = .ok (.iload_n 3, 1) := by decide +kernel
theorem dX10_lawful_37 : decode cX10_lawful 37 = .ok (.iaload, 1) := by decide +kernel
theorem dX10_lawful_38 : decode cX10_lawful 38 = .ok (.invokevirtual 154, 3) := by decide +kernel
theorem dX10_lawful_41 : decode cX10_lawful 41 = .ok (.iconst (-1), 1) := by decide +kernel
theorem dX10_lawful_42 : decode cX10_lawful 42 = .ok (.ixor, 1) := by decide +kernel
theorem dX10_lawful_43 : decode cX10_lawful 43 = .ok (.goto 4, 3) := by decide +kernel
theorem dX10_lawful_46 : decode cX10_lawful 46 = .ok (.iconst (-1), 1) := by decide +kernel
theorem dX10_lawful_47 : decode cX10_lawful 47 = .ok (.iand, 1) := by decide +kernel
theorem dX10_lawful_48 : decode cX10_lawful 48 = .ok (.istore_n 2, 1) := by decide +kernel
theorem dX10_lawful_49 : decode cX10_lawful 49 = .ok (.iinc 3 1, 3) := by decide +kernel
theorem dX10_lawful_52 : decode cX10_lawful 52 = .ok (.goto (-44), 3) := by decide +kernel
theorem dX10_lawful_55 : decode cX10_lawful 55 = .ok (.iload_n 2, 1) := by decide +kernel
theorem dX10_lawful_56 : decode cX10_lawful 56 = .ok (.ireturn, 1) := by decide +kernel
theorem dX10_after_0 : decode cX10_after 0 = .ok (.iload_n 1, 1) := by decide +kernel
theorem dX10_after_1 : decode cX10_after 1 = .ok (.istore 4, 2) := by decide +kernel
theorem dX10_after_3 : decode cX10_after 3 = .ok (.iconst 0, 1) := by decide +kernel
theorem dX10_after_4 : decode cX10_after 4 = .ok (.istore 5, 2) := by decide +kernel
theorem dX10_after_6 : decode cX10_after 6 = .ok (.iload 5, 2) := by decide +kernel
theorem dX10_after_8 : decode cX10_after 8 = .ok (.aload_n 0, 1) := by decide +kernel
theorem dX10_after_9 : decode cX10_after 9 = .ok (.getfield 175, 3) := by decide +kernel
theorem dX10_after_12 : decode cX10_after 12 = .ok (.if_icmp .ge 88, 3) := by decide +kernel
theorem dX10_after_15 : decode cX10_after 15 = .ok (.iload_n 1, 1) := by decide +kernel
theorem dX10_after_16 : decode cX10_after 16 = .ok (.aload_n 0, 1) := by decide +kernel
theorem dX10_after_17 : decode cX10_after 17 = .ok (.getfield 31, 3) := by decide +kernel
theorem dX10_after_20 : decode cX10_after 20 = .ok (.iload 5, 2) := by decide +kernel
theorem dX10_after_22 : decode cX10_after 22 = .ok (.iaload, 1) := by decide +kernel
theorem dX10_after_23 : decode cX10_after 23 = .ok (.idiv, 1) := by decide +kernel
theorem dX10_after_24 : decode cX10_after 24 = .ok (.aload_n 0, 1) := by decide +kernel
theorem dX10_after_25 : decode cX10_after 25 = .ok (.getfield 28, 3) := by decide +kernel
theorem dX10_after_28 : decode cX10_after 28 = .ok (.iload 5, 2) := by decide +kernel
theorem dX10_after_30 : decode cX10_after 30 = .ok (.iaload, 1) := by decide +kernel
theorem dX10_after_31 : decode cX10_after 31 = .ok (.irem, 1) := by decide +kernel
theorem dX10_after_32 : decode cX10_after 32 = .ok (.ifCond .le 38, 3) := by decide +kernel
theorem dX10_after_35 : decode cX10_after 35 = .ok (.aload_n 0, 1) := by decide +kernel
theorem dX10_after_36 : decode cX10_after 36 = .ok (.aload_n 0, 1) := by decide +kernel
theorem dX10_after_37 : decode cX10_after 37 = .ok (.getfield 25, 3) := by decide +kernel
theorem dX10_after_40 : decode cX10_after 40 = .ok (.iload 5, 2) := by decide +kernel
theorem dX10_after_42 : decode cX10_after 42 = .ok (.iaload, 1) := by decide +kernel
theorem dX10_after_43 : decode cX10_after 43 = .ok (.iload_n 2, 1) := by decide +kernel
theorem dX10_after_44 : decode cX10_after 44 = .ok (.invokevirtual 167, 3) := by decide +kernel
theorem dX10_after_47 : decode cX10_after 47 = .ok (.ifCond .eq 23, 3) := by decide +kernel
theorem dX10_after_50 : decode cX10_after 50 = .ok (.aload_n 0, 1) := by decide +kernel
theorem dX10_after_51 : decode cX10_after 51 = .ok (.aload_n 0, 1) := by decide +kernel
theorem dX10_after_52 : decode cX10_after 52 = .ok (.getfield 25, 3) := by decide +kernel
theorem dX10_after_55 : decode cX10_after 55 = .ok (.iload 5, 2) := by decide +kernel
theorem dX10_after_57 : decode cX10_after 57 = .ok (.iaload, 1) := by decide +kernel
theorem dX10_after_58 : decode cX10_after 58 = .ok (.iconst 2, 1) := by decide +kernel
theorem dX10_after_59 : decode cX10_after 59 = .ok (.invokevirtual 131, 3) := by decide +kernel
theorem dX10_after_62 : decode cX10_after 62 = .ok (.iload_n 3, 1) := by decide +kernel
theorem dX10_after_63 : decode cX10_after 63 = .ok (.if_icmp .ne 7, 3) := by decide +kernel
theorem dX10_after_66 : decode cX10_after 66 = .ok (.iconst 1, 1) := by decide +kernel
theorem dX10_after_67 : decode cX10_after 67 = .ok (.goto 4, 3) := by decide +kernel
theorem dX10_after_70 : decode cX10_after 70 = .ok (.iconst 0, 1) := by decide +kernel
theorem dX10_after_71 : decode cX10_after 71 = .ok (.istore 6, 2) := by decide +kernel
theorem dX10_after_73 : decode cX10_after 73 = .ok (.iload 4, 2) := by decide +kernel
theorem dX10_after_75 : decode cX10_after 75 = .ok (.iload 6, 2) := by decide +kernel
theorem dX10_after_77 : decode cX10_after 77 = .ok (.ifCond .eq 13, 3) := by decide +kernel
theorem dX10_after_80 : decode cX10_after 80 = .ok (.aload_n 0, 1) := by decide +kernel
theorem dX10_after_81 : decode cX10_after 81 = .ok (.getfield 31, 3) := by decide +kernel
theorem dX10_after_84 : decode cX10_after 84 = .ok (.iload 5, 2) := by decide +kernel
theorem dX10_after_86 : decode cX10_after 86 = .ok (.iaload, 1) := by decide +kernel
theorem dX10_after_87 : decode cX10_after 87 = .ok (.goto 4, 3) := by decide +kernel
theorem dX10_after_90 : decode cX10_after 90 = .ok (.iconst 0, 1) := by decide +kernel
theorem dX10_after_91 : decode cX10_after 91 = .ok (.isub, 1) := by decide +kernel
theorem dX10_after_92 : decode cX10_after 92 = .ok (.istore 4, 2) := by decide +kernel
theorem dX10_after_94 : decode cX10_after 94 = .ok (.iinc 5 1, 3) := by decide +kernel
theorem dX10_after_97 : decode cX10_after 97 = .ok (.goto (-91), 3) := by decide +kernel
theorem dX10_after_100 : decode cX10_after 100 = .ok (.iload 4, 2) := by decide +kernel
theorem dX10_after_102 : decode cX10_after 102 = .ok (.ireturn, 1) := by decide +kernel
theorem dX10_backTo_0 : decode cX10_backTo 0 = .ok (.iconst 0, 1) := by decide +kernel
theorem dX10_backTo_1 : decode cX10_backTo 1 = .ok (.istore_n 3, 1) := by decide +kernel
theorem dX10_backTo_2 : decode cX10_backTo 2 = .ok (.iload_n 3, 1) := by decide +kernel
theorem dX10_backTo_3 : decode cX10_backTo 3 = .ok (.bipush 8, 2) := by decide +kernel
theorem dX10_backTo_5 : decode cX10_backTo 5 = .ok (.aload_n 0, 1) := by decide +kernel
theorem dX10_backTo_6 : decode cX10_backTo 6 = .ok (.getfield 179, 3) := by decide +kernel
theorem dX10_backTo_9 : decode cX10_backTo 9 = .ok (.imul, 1) := by decide +kernel
theorem dX10_backTo_10 : decode cX10_backTo 10 = .ok (.if_icmp .ge 44, 3) := by decide +kernel
theorem dX10_backTo_13 : decode cX10_backTo 13 = .ok (.aload_n 0, 1) := by decide +kernel
theorem dX10_backTo_14 : decode cX10_backTo 14 = .ok (.getfield 34, 3) := by decide +kernel
theorem dX10_backTo_17 : decode cX10_backTo 17 = .ok (.iload_n 3, 1) := by decide +kernel
theorem dX10_backTo_18 : decode cX10_backTo 18 = .ok (.iload_n 3, 1) := by decide +kernel
theorem dX10_backTo_19 : decode cX10_backTo 19 = .ok (.bipush 8, 2) := by decide +kernel
theorem dX10_backTo_21 : decode cX10_backTo 21 = .ok (.if_icmp .ge 15, 3) := by decide +kernel
theorem dX10_backTo_24 : decode cX10_backTo 24 = .ok (.iload_n 2, 1) := by decide +kernel
theorem dX10_backTo_25 : decode cX10_backTo 25 = .ok (.ifCond .eq 7, 3) := by decide +kernel
theorem dX10_backTo_28 : decode cX10_backTo 28 = .ok (.iconst 1, 1) := by decide +kernel
theorem dX10_backTo_29 : decode cX10_backTo 29 = .ok (.goto 18, 3) := by decide +kernel
theorem dX10_backTo_32 : decode cX10_backTo 32 = .ok (.iconst 0, 1) := by decide +kernel
theorem dX10_backTo_33 : decode cX10_backTo 33 = .ok (.goto 14, 3) := by decide +kernel
theorem dX10_backTo_36 : decode cX10_backTo 36 = .ok (.iload_n 2, 1) := by decide +kernel
theorem dX10_backTo_37 : decode cX10_backTo 37 = .ok (.ifCond .eq 7, 3) := by decide +kernel
theorem dX10_backTo_40 : decode cX10_backTo 40 = .ok (.iconst 0, 1) := by decide +kernel
theorem dX10_backTo_41 : decode cX10_backTo 41 = .ok (.goto 6, 3) := by decide +kernel
theorem dX10_backTo_44 : decode cX10_backTo 44 = .ok (.sipush 1000, 3) := by decide +kernel
theorem dX10_backTo_47 : decode cX10_backTo 47 = .ok (.iastore, 1) := by decide +kernel
theorem dX10_backTo_48 : decode cX10_backTo 48 = .ok (.iinc 3 1, 3) := by decide +kernel
theorem dX10_backTo_51 : decode cX10_backTo 51 = .ok (.goto (-49), 3) := by decide +kernel
theorem dX10_backTo_54 : decode cX10_backTo 54 = .ok (.bipush 23, 2) := by decide +kernel
theorem dX10_backTo_56 : decode cX10_backTo 56 = .ok (.istore_n 3, 1) := by decide +kernel
theorem dX10_backTo_57 : decode cX10_backTo 57 = .ok (.iload_n 3, 1) := by decide +kernel
theorem dX10_backTo_58 : decode cX10_backTo 58 = .ok (.iload_n 1, 1) := by decide +kernel
theorem dX10_backTo_59 : decode cX10_backTo 59 = .ok (.if_icmp .le 241, 3) := by decide +kernel
theorem dX10_backTo_62 : decode cX10_backTo 62 = .ok (.iconst 0, 1) := by decide +kernel
theorem dX10_backTo_63 : decode cX10_backTo 63 = .ok (.istore 4, 2) := by decide +kernel
theorem dX10_backTo_65 : decode cX10_backTo 65 = .ok (.iload 4, 2) := by decide +kernel
theorem dX10_backTo_67 : decode cX10_backTo 67 = .ok (.bipush 8, 2) := by decide +kernel
theorem dX10_backTo_69 : decode cX10_backTo 69 = .ok (.aload_n 0, 1) := by decide +kernel
theorem dX10_backTo_70 : decode cX10_backTo 70 = .ok (.getfield 179, 3) := by decide +kernel
theorem dX10_backTo_73 : decode cX10_backTo 73 = .ok (.imul, 1) := by decide +kernel
theorem dX10_backTo_74 : decode cX10_backTo 74 = .ok (.if_icmp .ge 23, 3) := by decide +kernel
theorem dX10_backTo_77 : decode cX10_backTo 77 = .ok (.aload_n 0, 1) := by decide +kernel
theorem dX10_backTo_78 : decode cX10_backTo 78 = .ok (.getfield 37, 3) := by decide +kernel
theorem dX10_backTo_81 : decode cX10_backTo 81 = .ok (.iload 4, 2) := by decide +kernel
theorem dX10_backTo_83 : decode cX10_backTo 83 = .ok (.aload_n 0, 1) := by decide +kernel
theorem dX10_backTo_84 : decode cX10_backTo 84 = .ok (.getfield 34, 3) := by decide +kernel
theorem dX10_backTo_87 : decode cX10_backTo 87 = .ok (.iload 4, 2) := by decide +kernel
theorem dX10_backTo_89 : decode cX10_backTo 89 = .ok (.iaload, 1) := by decide +kernel
theorem dX10_backTo_90 : decode cX10_backTo 90 = .ok (.iastore, 1) := by decide +kernel
theorem dX10_backTo_91 : decode cX10_backTo 91 = .ok (.iinc 4 1, 3) := by decide +kernel
theorem dX10_backTo_94 : decode cX10_backTo 94 = .ok (.goto (-29), 3) := by decide +kernel
theorem dX10_backTo_97 : decode cX10_backTo 97 = .ok (.aload_n 0, 1) := by decide +kernel
theorem dX10_backTo_98 : decode cX10_backTo 98 = .ok (.iload_n 3, 1) := by decide +kernel
theorem dX10_backTo_99 : decode cX10_backTo 99 = .ok (.invokevirtual 185, 3) := by decide +kernel
theorem dX10_backTo_102 : decode cX10_backTo 102 = .ok (.istore 4, 2) := by decide +kernel
theorem dX10_backTo_104 : decode cX10_backTo 104 = .ok (.iconst 0, 1) := by decide +kernel
theorem dX10_backTo_105 : decode cX10_backTo 105 = .ok (.istore 5, 2) := by decide +kernel
theorem dX10_backTo_107 : decode cX10_backTo 107 = .ok (.iload 5, 2) := by decide +kernel
theorem dX10_backTo_109 : decode cX10_backTo 109 = .ok (.bipush 8, 2) := by decide +kernel
theorem dX10_backTo_111 : decode cX10_backTo 111 = .ok (.aload_n 0, 1) := by decide +kernel
theorem dX10_backTo_112 : decode cX10_backTo 112 = .ok (.getfield 179, 3) := by decide +kernel
theorem dX10_backTo_115 : decode cX10_backTo 115 = .ok (.imul, 1) := by decide +kernel
theorem dX10_backTo_116 : decode cX10_backTo 116 = .ok (.if_icmp .ge 178, 3) := by decide +kernel
theorem dX10_backTo_119 : decode cX10_backTo 119 = .ok (.iload 5, 2) := by decide +kernel
theorem dX10_backTo_121 : decode cX10_backTo 121 = .ok (.bipush 8, 2) := by decide +kernel
theorem dX10_backTo_123 : decode cX10_backTo 123 = .ok (.irem, 1) := by decide +kernel
theorem dX10_backTo_124 : decode cX10_backTo 124 = .ok (.istore 6, 2) := by decide +kernel
theorem dX10_backTo_126 : decode cX10_backTo 126 = .ok (.iconst 1, 1) := by decide +kernel
theorem dX10_backTo_127 : decode cX10_backTo 127 = .ok (.iload 6, 2) := by decide +kernel
theorem dX10_backTo_129 : decode cX10_backTo 129 = .ok (.ishl, 1) := by decide +kernel
theorem dX10_backTo_130 : decode cX10_backTo 130 = .ok (.aload_n 0, 1) := by decide +kernel
theorem dX10_backTo_131 : decode cX10_backTo 131 = .ok (.getfield 7, 3) := by decide +kernel
theorem dX10_backTo_134 : decode cX10_backTo 134 = .ok (.iconst 0, 1) := by decide +kernel
theorem dX10_backTo_135 : decode cX10_backTo 135 = .ok (.iload 6, 2) := by decide +kernel
theorem dX10_backTo_137 : decode cX10_backTo 137 = .ok (.iadd, 1) := by decide +kernel
theorem dX10_backTo_138 : decode cX10_backTo 138 = .ok (.iaload, 1) := by decide +kernel
theorem dX10_backTo_139 : decode cX10_backTo 139 = .ok (.ior, 1) := by decide +kernel
theorem dX10_backTo_140 : decode cX10_backTo 140 = .ok (.iload 4, 2) := by decide +kernel
theorem dX10_backTo_142 : decode cX10_backTo 142 = .ok (.iand, 1) := by decide +kernel
theorem dX10_backTo_143 : decode cX10_backTo 143 = .ok (.istore 7, 2) := by decide +kernel
theorem dX10_backTo_145 : decode cX10_backTo 145 = .ok (.iload_n 2, 1) := by decide +kernel
theorem dX10_backTo_146 : decode cX10_backTo 146 = .ok (.ifCond .eq 7, 3) := by decide +kernel
theorem dX10_backTo_149 : decode cX10_backTo 149 = .ok (.iconst 0, 1) := by decide +kernel
theorem dX10_backTo_150 : decode cX10_backTo 150 = .ok (.goto 6, 3) := by decide +kernel
theorem dX10_backTo_153 : decode cX10_backTo 153 = .ok (.sipush 1000, 3) := by decide +kernel
theorem dX10_backTo_156 : decode cX10_backTo 156 = .ok (.istore 8, 2) := by decide +kernel
theorem dX10_backTo_158 : decode cX10_backTo 158 = .ok (.iconst 0, 1) := by decide +kernel
theorem dX10_backTo_159 : decode cX10_backTo 159 = .ok (.istore 9, 2) := by decide +kernel
theorem dX10_backTo_161 : decode cX10_backTo 161 = .ok (.iload 9, 2) := by decide +kernel
theorem dX10_backTo_163 : decode cX10_backTo 163 = .ok (.bipush 8, 2) := by decide +kernel
theorem dX10_backTo_165 : decode cX10_backTo 165 = .ok (.if_icmp .ge 98, 3) := by decide +kernel
theorem dX10_backTo_168 : decode cX10_backTo 168 = .ok (.iload 7, 2) := by decide +kernel
theorem dX10_backTo_170 : decode cX10_backTo 170 = .ok (.iload 9, 2) := by decide +kernel
theorem dX10_backTo_172 : decode cX10_backTo 172 = .ok (.invokestatic 90, 3) := by decide +kernel
theorem dX10_backTo_175 : decode cX10_backTo 175 = .ok (.ifCond .eq 82, 3) := by decide +kernel
theorem dX10_backTo_178 : decode cX10_backTo 178 = .ok (.aload_n 0, 1) := by decide +kernel
theorem dX10_backTo_179 : decode cX10_backTo 179 = .ok (.getfield 37, 3) := by decide +kernel
theorem dX10_backTo_182 : decode cX10_backTo 182 = .ok (.bipush 8, 2) := by decide +kernel
theorem dX10_backTo_184 : decode cX10_backTo 184 = .ok (.aload_n 0, 1) := by decide +kernel
theorem dX10_backTo_185 : decode cX10_backTo 185 = .ok (.iload 5, 2) := by decide +kernel
theorem dX10_backTo_187 : decode cX10_backTo 187 = .ok (.bipush 8, 2) := by decide +kernel
theorem dX10_backTo_189 : decode cX10_backTo 189 = .ok (.idiv, 1) := by decide +kernel
theorem dX10_backTo_190 : decode cX10_backTo 190 = .ok (.iload_n 3, 1) := by decide +kernel
theorem dX10_backTo_191 : decode cX10_backTo 191 = .ok (.iload 9, 2) := by decide +kernel
theorem dX10_backTo_193 : decode cX10_backTo 193 = .ok (.invokevirtual 188, 3) := by decide +kernel
theorem dX10_backTo_196 : decode cX10_backTo 196 = .ok (.imul, 1) := by decide +kernel
theorem dX10_backTo_197 : decode cX10_backTo 197 = .ok (.iload 9, 2) := by decide +kernel
theorem dX10_backTo_199 : decode cX10_backTo 199 = .ok (.iadd, 1) := by decide +kernel
theorem dX10_backTo_200 : decode cX10_backTo 200 = .ok (.iaload, 1) := by decide +kernel
theorem dX10_backTo_201 : decode cX10_backTo 201 = .ok (.istore 10, 2) := by decide +kernel
theorem dX10_backTo_203 : decode cX10_backTo 203 = .ok (.iload_n 2, 1) := by decide +kernel
theorem dX10_backTo_204 : decode cX10_backTo 204 = .ok (.ifCond .eq 11, 3) := by decide +kernel
theorem dX10_backTo_207 : decode cX10_backTo 207 = .ok (.iload 8, 2) := by decide +kernel
theorem dX10_backTo_209 : decode cX10_backTo 209 = .ok (.iload 10, 2) := by decide +kernel
theorem dX10_backTo_211 : decode cX10_backTo 211 = .ok (.iadd, 1) := by decide +kernel
theorem dX10_backTo_212 : decode cX10_backTo 212 = .ok (.goto 43, 3) := by decide +kernel
theorem dX10_backTo_215 : decode cX10_backTo 215 = .ok (.iload 10, 2) := by decide +kernel
theorem dX10_backTo_217 : decode cX10_backTo 217 = .ok (.iload 9, 2) := by decide +kernel
theorem dX10_backTo_219 : decode cX10_backTo 219 = .ok (.iload 6, 2) := by decide +kernel
theorem dX10_backTo_221 : decode cX10_backTo 221 = .ok (.if_icmp .ne 7, 3) := by decide +kernel
theorem dX10_backTo_224 : decode cX10_backTo 224 = .ok (.iconst 0, 1) := by decide +kernel
theorem dX10_backTo_225 : decode cX10_backTo 225 = .ok (.goto 4, 3) := by decide +kernel
theorem dX10_backTo_228 : decode cX10_backTo 228 = .ok (.iconst 1, 1) := by decide +kernel
theorem dX10_backTo_229 : decode cX10_backTo 229 = .ok (.iadd, 1) := by decide +kernel
theorem dX10_backTo_230 : decode cX10_backTo 230 = .ok (.iload 8, 2) := by decide +kernel
theorem dX10_backTo_232 : decode cX10_backTo 232 = .ok (.if_icmp .ge 21, 3) := by decide +kernel
theorem dX10_backTo_235 : decode cX10_backTo 235 = .ok (.iload 10, 2) := by decide +kernel
theorem dX10_backTo_237 : decode cX10_backTo 237 = .ok (.iload 9, 2) := by decide +kernel
theorem dX10_backTo_239 : decode cX10_backTo 239 = .ok (.iload 6, 2) := by decide +kernel
theorem dX10_backTo_241 : decode cX10_backTo 241 = .ok (.if_icmp .ne 7, 3) := by decide +kernel
theorem dX10_backTo_244 : decode cX10_backTo 244 = .ok (.iconst 0, 1) := by decide +kernel
theorem dX10_backTo_245 : decode cX10_backTo 245 = .ok (.goto 4, 3) := by decide +kernel
theorem dX10_backTo_248 : decode cX10_backTo 248 = .ok (.iconst 1, 1) := by decide +kernel
theorem dX10_backTo_249 : decode cX10_backTo 249 = .ok (.iadd, 1) := by decide +kernel
theorem dX10_backTo_250 : decode cX10_backTo 250 = .ok (.goto 5, 3) := by decide +kernel
theorem dX10_backTo_253 : decode cX10_backTo 253 = .ok (.iload 8, 2) := by decide +kernel
theorem dX10_backTo_255 : decode cX10_backTo 255 = .ok (.istore 8, 2) := by decide +kernel
theorem dX10_backTo_257 : decode cX10_backTo 257 = .ok (.iinc 9 1, 3) := by decide +kernel
theorem dX10_backTo_260 : decode cX10_backTo 260 = .ok (.goto (-99), 3) := by decide +kernel
theorem dX10_backTo_263 : decode cX10_backTo 263 = .ok (.aload_n 0, 1) := by decide +kernel
theorem dX10_backTo_264 : decode cX10_backTo 264 = .ok (.getfield 34, 3) := by decide +kernel
theorem dX10_backTo_267 : decode cX10_backTo 267 = .ok (.iload 5, 2) := by decide +kernel
theorem dX10_backTo_269 : decode cX10_backTo 269 = .ok (.iload_n 2, 1) := by decide +kernel
theorem dX10_backTo_270 : decode cX10_backTo 270 = .ok (.ifCond .eq 15, 3) := by decide +kernel
theorem dX10_backTo_273 : decode cX10_backTo 273 = .ok (.iload 8, 2) := by decide +kernel
theorem dX10_backTo_275 : decode cX10_backTo 275 = .ok (.ldc 191, 2) := by decide +kernel
theorem dX10_backTo_277 : decode cX10_backTo 277 = .ok (.if_icmp .le 8, 3) := by decide +kernel
theorem dX10_backTo_280 : decode cX10_backTo 280 = .ok (.ldc 191, 2) := by decide +kernel
theorem dX10_backTo_282 : decode cX10_backTo 282 = .ok (.goto 5, 3) := by decide +kernel
theorem dX10_backTo_285 : decode cX10_backTo 285 = .ok (.iload 8, 2) := by decide +kernel
theorem dX10_backTo_287 : decode cX10_backTo 287 = .ok (.iastore, 1) := by decide +kernel
theorem dX10_backTo_288 : decode cX10_backTo 288 = .ok (.iinc 5 1, 3) := by decide +kernel
theorem dX10_backTo_291 : decode cX10_backTo 291 = .ok (.goto (-184), 3) := by decide +kernel
theorem dX10_backTo_294 : decode cX10_backTo 294 = .ok (.iinc 3 (-1), 3) := by decide +kernel
theorem dX10_backTo_297 : decode cX10_backTo 297 = .ok (.goto (-240), 3) := by decide +kernel
theorem dX10_backTo_300 : decode cX10_backTo 300 = .ok (.return_, 1) := by decide +kernel
theorem dX10_fewest_0 : decode cX10_fewest 0 = .ok (.aload_n 0, 1) := by decide +kernel
theorem dX10_fewest_1 : decode cX10_fewest 1 = .ok (.iconst 0, 1) := by decide +kernel
theorem dX10_fewest_2 : decode cX10_fewest 2 = .ok (.iconst 0, 1) := by decide +kernel
theorem dX10_fewest_3 : decode cX10_fewest 3 = .ok (.invokevirtual 192, 3) := by decide +kernel
theorem dX10_fewest_6 : decode cX10_fewest 6 = .ok (.sipush 1000, 3) := by decide +kernel
theorem dX10_fewest_9 : decode cX10_fewest 9 = .ok (.istore_n 1, 1) := by decide +kernel
theorem dX10_fewest_10 : decode cX10_fewest 10 = .ok (.aload_n 0, 1) := by decide +kernel
theorem dX10_fewest_11 : decode cX10_fewest 11 = .ok (.iconst 0, 1) := by decide +kernel
theorem dX10_fewest_12 : decode cX10_fewest 12 = .ok (.invokevirtual 185, 3) := by decide +kernel
theorem dX10_fewest_15 : decode cX10_fewest 15 = .ok (.istore_n 2, 1) := by decide +kernel
theorem dX10_fewest_16 : decode cX10_fewest 16 = .ok (.iconst 0, 1) := by decide +kernel
theorem dX10_fewest_17 : decode cX10_fewest 17 = .ok (.istore_n 3, 1) := by decide +kernel
theorem dX10_fewest_18 : decode cX10_fewest 18 = .ok (.iload_n 3, 1) := by decide +kernel
theorem dX10_fewest_19 : decode cX10_fewest 19 = .ok (.bipush 8, 2) := by decide +kernel
theorem dX10_fewest_21 : decode cX10_fewest 21 = .ok (.if_icmp .ge 58, 3) := by decide +kernel
theorem dX10_fewest_24 : decode cX10_fewest 24 = .ok (.iload_n 2, 1) := by decide +kernel
theorem dX10_fewest_25 : decode cX10_fewest 25 = .ok (.iload_n 3, 1) := by decide +kernel
theorem dX10_fewest_26 : decode cX10_fewest 26 = .ok (.invokestatic 90, 3) := by decide +kernel
theorem dX10_fewest_29 : decode cX10_fewest 29 = .ok (.ifCond .eq 26, 3) := by decide +kernel
theorem dX10_fewest_32 : decode cX10_fewest 32 = .ok (.aload_n 0, 1) := by decide +kernel
theorem dX10_fewest_33 : decode cX10_fewest 33 = .ok (.getfield 34, 3) := by decide +kernel
theorem dX10_fewest_36 : decode cX10_fewest 36 = .ok (.bipush 8, 2) := by decide +kernel
theorem dX10_fewest_38 : decode cX10_fewest 38 = .ok (.aload_n 0, 1) := by decide +kernel
theorem dX10_fewest_39 : decode cX10_fewest 39 = .ok (.aload_n 0, 1) := by decide +kernel
theorem dX10_fewest_40 : decode cX10_fewest 40 = .ok (.getfield 182, 3) := by decide +kernel
theorem dX10_fewest_43 : decode cX10_fewest 43 = .ok (.iconst 0, 1) := by decide +kernel
theorem dX10_fewest_44 : decode cX10_fewest 44 = .ok (.iload_n 3, 1) := by decide +kernel
theorem dX10_fewest_45 : decode cX10_fewest 45 = .ok (.invokevirtual 188, 3) := by decide +kernel
theorem dX10_fewest_48 : decode cX10_fewest 48 = .ok (.imul, 1) := by decide +kernel
theorem dX10_fewest_49 : decode cX10_fewest 49 = .ok (.iload_n 3, 1) := by decide +kernel
theorem dX10_fewest_50 : decode cX10_fewest 50 = .ok (.iadd, 1) := by decide +kernel
theorem dX10_fewest_51 : decode cX10_fewest 51 = .ok (.iaload, 1) := by decide +kernel
theorem dX10_fewest_52 : decode cX10_fewest 52 = .ok (.goto 6, 3) := by decide +kernel
theorem dX10_fewest_55 : decode cX10_fewest 55 = .ok (.sipush 1000, 3) := by decide +kernel
theorem dX10_fewest_58 : decode cX10_fewest 58 = .ok (.istore 4, 2) := by decide +kernel
theorem dX10_fewest_60 : decode cX10_fewest 60 = .ok (.iload 4, 2) := by decide +kernel
theorem dX10_fewest_62 : decode cX10_fewest 62 = .ok (.iload_n 1, 1) := by decide +kernel
theorem dX10_fewest_63 : decode cX10_fewest 63 = .ok (.if_icmp .ge 8, 3) := by decide +kernel
theorem dX10_fewest_66 : decode cX10_fewest 66 = .ok (.iload 4, 2) := by decide +kernel
theorem dX10_fewest_68 : decode cX10_fewest 68 = .ok (.goto 4, 3) := by decide +kernel
theorem dX10_fewest_71 : decode cX10_fewest 71 = .ok (.iload_n 1, 1) := by decide +kernel
theorem dX10_fewest_72 : decode cX10_fewest 72 = .ok (.istore_n 1, 1) := by decide +kernel
theorem dX10_fewest_73 : decode cX10_fewest 73 = .ok (.iinc 3 1, 3) := by decide +kernel
theorem dX10_fewest_76 : decode cX10_fewest 76 = .ok (.goto (-58), 3) := by decide +kernel
theorem dX10_fewest_79 : decode cX10_fewest 79 = .ok (.iload_n 1, 1) := by decide +kernel
theorem dX10_fewest_80 : decode cX10_fewest 80 = .ok (.ireturn, 1) := by decide +kernel
theorem dX10_way_0 : decode cX10_way 0 = .ok (.iload_n 1, 1) := by decide +kernel
theorem dX10_way_1 : decode cX10_way 1 = .ok (.invokestatic 98, 3) := by decide +kernel
theorem dX10_way_4 : decode cX10_way 4 = .ok (.ifCond .eq 10, 3) := by decide +kernel
theorem dX10_way_7 : decode cX10_way 7 = .ok (.iload_n 2, 1) := by decide +kernel
theorem dX10_way_8 : decode cX10_way 8 = .ok (.invokestatic 122, 3) := by decide +kernel
theorem dX10_way_11 : decode cX10_way 11 = .ok (.ifCond .ne 10, 3) := by decide +kernel
theorem dX10_way_14 : decode cX10_way 14 = .ok (.aload_n 0, 1) := by decide +kernel
theorem dX10_way_15 : decode cX10_way 15 = .ok (.ldc 68, 2) := by decide +kernel
theorem dX10_way_17 : decode cX10_way 17 = .ok (.invokevirtual 86, 3) := by decide +kernel
theorem dX10_way_20 : decode cX10_way 20 = .ok (.ireturn, 1) := by decide +kernel
theorem dX10_way_21 : decode cX10_way 21 = .ok (.aload_n 0, 1) := by decide +kernel
theorem dX10_way_22 : decode cX10_way 22 = .ok (.iload_n 1, 1) := by decide +kernel
theorem dX10_way_23 : decode cX10_way 23 = .ok (.iload_n 2, 1) := by decide +kernel
theorem dX10_way_24 : decode cX10_way 24 = .ok (.iconst (-1), 1) := by decide +kernel
theorem dX10_way_25 : decode cX10_way 25 = .ok (.invokevirtual 196, 3) := by decide +kernel
theorem dX10_way_28 : decode cX10_way 28 = .ok (.aload_n 0, 1) := by decide +kernel
theorem dX10_way_29 : decode cX10_way 29 = .ok (.invokevirtual 200, 3) := by decide +kernel
theorem dX10_way_32 : decode cX10_way 32 = .ok (.istore_n 3, 1) := by decide +kernel
theorem dX10_way_33 : decode cX10_way 33 = .ok (.iload_n 3, 1) := by decide +kernel
theorem dX10_way_34 : decode cX10_way 34 = .ok (.sipush 1000, 3) := by decide +kernel
theorem dX10_way_37 : decode cX10_way 37 = .ok (.if_icmp .lt 10, 3) := by decide +kernel
theorem dX10_way_40 : decode cX10_way 40 = .ok (.aload_n 0, 1) := by decide +kernel
theorem dX10_way_41 : decode cX10_way 41 = .ok (.ldc 97, 2) := by decide +kernel
theorem dX10_way_43 : decode cX10_way 43 = .ok (.invokevirtual 86, 3) := by decide +kernel
theorem dX10_way_46 : decode cX10_way 46 = .ok (.ireturn, 1) := by decide +kernel
theorem dX10_way_47 : decode cX10_way 47 = .ok (.iload_n 3, 1) := by decide +kernel
theorem dX10_way_48 : decode cX10_way 48 = .ok (.istore 4, 2) := by decide +kernel
theorem dX10_way_50 : decode cX10_way 50 = .ok (.aload_n 0, 1) := by decide +kernel
theorem dX10_way_51 : decode cX10_way 51 = .ok (.getfield 182, 3) := by decide +kernel
theorem dX10_way_54 : decode cX10_way 54 = .ok (.istore 5, 2) := by decide +kernel
theorem dX10_way_56 : decode cX10_way 56 = .ok (.iconst 0, 1) := by decide +kernel
theorem dX10_way_57 : decode cX10_way 57 = .ok (.istore 6, 2) := by decide +kernel
theorem dX10_way_59 : decode cX10_way 59 = .ok (.iload 6, 2) := by decide +kernel
theorem dX10_way_61 : decode cX10_way 61 = .ok (.bipush 24, 2) := by decide +kernel
theorem dX10_way_63 : decode cX10_way 63 = .ok (.if_icmp .ge 221, 3) := by decide +kernel
theorem dX10_way_66 : decode cX10_way 66 = .ok (.aload_n 0, 1) := by decide +kernel
theorem dX10_way_67 : decode cX10_way 67 = .ok (.iload 6, 2) := by decide +kernel
theorem dX10_way_69 : decode cX10_way 69 = .ok (.iconst 0, 1) := by decide +kernel
theorem dX10_way_70 : decode cX10_way 70 = .ok (.invokevirtual 192, 3) := by decide +kernel
theorem dX10_way_73 : decode cX10_way 73 = .ok (.aload_n 0, 1) := by decide +kernel
theorem dX10_way_74 : decode cX10_way 74 = .ok (.iload 6, 2) := by decide +kernel
theorem dX10_way_76 : decode cX10_way 76 = .ok (.invokevirtual 185, 3) := by decide +kernel
theorem dX10_way_79 : decode cX10_way 79 = .ok (.istore 7, 2) := by decide +kernel
theorem dX10_way_81 : decode cX10_way 81 = .ok (.iconst (-1), 1) := by decide +kernel
theorem dX10_way_82 : decode cX10_way 82 = .ok (.istore 8, 2) := by decide +kernel
theorem dX10_way_84 : decode cX10_way 84 = .ok (.bipush 7, 2) := by decide +kernel
theorem dX10_way_86 : decode cX10_way 86 = .ok (.istore 9, 2) := by decide +kernel
theorem dX10_way_88 : decode cX10_way 88 = .ok (.iload 9, 2) := by decide +kernel
theorem dX10_way_90 : decode cX10_way 90 = .ok (.ifCond .lt 138, 3) := by decide +kernel
theorem dX10_way_93 : decode cX10_way 93 = .ok (.iload 6, 2) := by decide +kernel
theorem dX10_way_95 : decode cX10_way 95 = .ok (.ifCond .eq 41, 3) := by decide +kernel
theorem dX10_way_98 : decode cX10_way 98 = .ok (.iload 9, 2) := by decide +kernel
theorem dX10_way_100 : decode cX10_way 100 = .ok (.aload_n 0, 1) := by decide +kernel
theorem dX10_way_101 : decode cX10_way 101 = .ok (.getfield 40, 3) := by decide +kernel
theorem dX10_way_104 : decode cX10_way 104 = .ok (.iload 6, 2) := by decide +kernel
theorem dX10_way_106 : decode cX10_way 106 = .ok (.iconst 1, 1) := by decide +kernel
theorem dX10_way_107 : decode cX10_way 107 = .ok (.isub, 1) := by decide +kernel
theorem dX10_way_108 : decode cX10_way 108 = .ok (.iaload, 1) := by decide +kernel
theorem dX10_way_109 : decode cX10_way 109 = .ok (.if_icmp .eq 27, 3) := by decide +kernel
theorem dX10_way_112 : decode cX10_way 112 = .ok (.aload_n 0, 1) := by decide +kernel
theorem dX10_way_113 : decode cX10_way 113 = .ok (.getfield 7, 3) := by decide +kernel
theorem dX10_way_116 : decode cX10_way 116 = .ok (.iconst 0, 1) := by decide +kernel
theorem dX10_way_117 : decode cX10_way 117 = .ok (.aload_n 0, 1) := by decide +kernel
theorem dX10_way_118 : decode cX10_way 118 = .ok (.getfield 40, 3) := by decide +kernel
theorem dX10_way_121 : decode cX10_way 121 = .ok (.iload 6, 2) := by decide +kernel
theorem dX10_way_123 : decode cX10_way 123 = .ok (.iconst 1, 1) := by decide +kernel
theorem dX10_way_124 : decode cX10_way 124 = .ok (.isub, 1) := by decide +kernel
theorem dX10_way_125 : decode cX10_way 125 = .ok (.iaload, 1) := by decide +kernel
theorem dX10_way_126 : decode cX10_way 126 = .ok (.iadd, 1) := by decide +kernel
theorem dX10_way_127 : decode cX10_way 127 = .ok (.iaload, 1) := by decide +kernel
theorem dX10_way_128 : decode cX10_way 128 = .ok (.iload 9, 2) := by decide +kernel
theorem dX10_way_130 : decode cX10_way 130 = .ok (.invokestatic 90, 3) := by decide +kernel
theorem dX10_way_133 : decode cX10_way 133 = .ok (.ifCond .eq 7, 3) := by decide +kernel
theorem dX10_way_136 : decode cX10_way 136 = .ok (.iconst 1, 1) := by decide +kernel
theorem dX10_way_137 : decode cX10_way 137 = .ok (.goto 4, 3) := by decide +kernel
theorem dX10_way_140 : decode cX10_way 140 = .ok (.iconst 0, 1) := by decide +kernel
theorem dX10_way_141 : decode cX10_way 141 = .ok (.istore 10, 2) := by decide +kernel
theorem dX10_way_143 : decode cX10_way 143 = .ok (.iload 6, 2) := by decide +kernel
theorem dX10_way_145 : decode cX10_way 145 = .ok (.ifCond .eq 17, 3) := by decide +kernel
theorem dX10_way_148 : decode cX10_way 148 = .ok (.iload 9, 2) := by decide +kernel
theorem dX10_way_150 : decode cX10_way 150 = .ok (.aload_n 0, 1) := by decide +kernel
theorem dX10_way_151 : decode cX10_way 151 = .ok (.getfield 40, 3) := by decide +kernel
theorem dX10_way_154 : decode cX10_way 154 = .ok (.iload 6, 2) := by decide +kernel
theorem dX10_way_156 : decode cX10_way 156 = .ok (.iconst 1, 1) := by decide +kernel
theorem dX10_way_157 : decode cX10_way 157 = .ok (.isub, 1) := by decide +kernel
theorem dX10_way_158 : decode cX10_way 158 = .ok (.iaload, 1) := by decide +kernel
theorem dX10_way_159 : decode cX10_way 159 = .ok (.if_icmp .ne 7, 3) := by decide +kernel
theorem dX10_way_162 : decode cX10_way 162 = .ok (.iconst 0, 1) := by decide +kernel
theorem dX10_way_163 : decode cX10_way 163 = .ok (.goto 4, 3) := by decide +kernel
theorem dX10_way_166 : decode cX10_way 166 = .ok (.iconst 1, 1) := by decide +kernel
theorem dX10_way_167 : decode cX10_way 167 = .ok (.istore 11, 2) := by decide +kernel
theorem dX10_way_169 : decode cX10_way 169 = .ok (.iload 10, 2) := by decide +kernel
theorem dX10_way_171 : decode cX10_way 171 = .ok (.ifCond .eq 47, 3) := by decide +kernel
theorem dX10_way_174 : decode cX10_way 174 = .ok (.iload 7, 2) := by decide +kernel
theorem dX10_way_176 : decode cX10_way 176 = .ok (.iload 9, 2) := by decide +kernel
theorem dX10_way_178 : decode cX10_way 178 = .ok (.invokestatic 90, 3) := by decide +kernel
theorem dX10_way_181 : decode cX10_way 181 = .ok (.ifCond .eq 37, 3) := by decide +kernel
theorem dX10_way_184 : decode cX10_way 184 = .ok (.aload_n 0, 1) := by decide +kernel
theorem dX10_way_185 : decode cX10_way 185 = .ok (.getfield 34, 3) := by decide +kernel
theorem dX10_way_188 : decode cX10_way 188 = .ok (.bipush 8, 2) := by decide +kernel
theorem dX10_way_190 : decode cX10_way 190 = .ok (.aload_n 0, 1) := by decide +kernel
theorem dX10_way_191 : decode cX10_way 191 = .ok (.iload 5, 2) := by decide +kernel
theorem dX10_way_193 : decode cX10_way 193 = .ok (.iload 6, 2) := by decide +kernel
theorem dX10_way_195 : decode cX10_way 195 = .ok (.iload 9, 2) := by decide +kernel
theorem dX10_way_197 : decode cX10_way 197 = .ok (.invokevirtual 188, 3) := by decide +kernel
theorem dX10_way_200 : decode cX10_way 200 = .ok (.imul, 1) := by decide +kernel
theorem dX10_way_201 : decode cX10_way 201 = .ok (.iload 9, 2) := by decide +kernel
theorem dX10_way_203 : decode cX10_way 203 = .ok (.iadd, 1) := by decide +kernel
theorem dX10_way_204 : decode cX10_way 204 = .ok (.iaload, 1) := by decide +kernel
theorem dX10_way_205 : decode cX10_way 205 = .ok (.iload 4, 2) := by decide +kernel
theorem dX10_way_207 : decode cX10_way 207 = .ok (.iload 11, 2) := by decide +kernel
theorem dX10_way_209 : decode cX10_way 209 = .ok (.isub, 1) := by decide +kernel
theorem dX10_way_210 : decode cX10_way 210 = .ok (.if_icmp .ne 8, 3) := by decide +kernel
theorem dX10_way_213 : decode cX10_way 213 = .ok (.iload 9, 2) := by decide +kernel
theorem dX10_way_215 : decode cX10_way 215 = .ok (.goto 5, 3) := by decide +kernel
theorem dX10_way_218 : decode cX10_way 218 = .ok (.iload 8, 2) := by decide +kernel
theorem dX10_way_220 : decode cX10_way 220 = .ok (.istore 8, 2) := by decide +kernel
theorem dX10_way_222 : decode cX10_way 222 = .ok (.iinc 9 (-1), 3) := by decide +kernel
theorem dX10_way_225 : decode cX10_way 225 = .ok (.goto (-137), 3) := by decide +kernel
theorem dX10_way_228 : decode cX10_way 228 = .ok (.iload 4, 2) := by decide +kernel
theorem dX10_way_230 : decode cX10_way 230 = .ok (.iload 6, 2) := by decide +kernel
theorem dX10_way_232 : decode cX10_way 232 = .ok (.ifCond .eq 17, 3) := by decide +kernel
theorem dX10_way_235 : decode cX10_way 235 = .ok (.iload 8, 2) := by decide +kernel
theorem dX10_way_237 : decode cX10_way 237 = .ok (.aload_n 0, 1) := by decide +kernel
theorem dX10_way_238 : decode cX10_way 238 = .ok (.getfield 40, 3) := by decide +kernel
theorem dX10_way_241 : decode cX10_way 241 = .ok (.iload 6, 2) := by decide +kernel
theorem dX10_way_243 : decode cX10_way 243 = .ok (.iconst 1, 1) := by decide +kernel
theorem dX10_way_244 : decode cX10_way 244 = .ok (.isub, 1) := by decide +kernel
theorem dX10_way_245 : decode cX10_way 245 = .ok (.iaload, 1) := by decide +kernel
theorem dX10_way_246 : decode cX10_way 246 = .ok (.if_icmp .ne 7, 3) := by decide +kernel
theorem dX10_way_249 : decode cX10_way 249 = .ok (.iconst 0, 1) := by decide +kernel
theorem dX10_way_250 : decode cX10_way 250 = .ok (.goto 4, 3) := by decide +kernel
theorem dX10_way_253 : decode cX10_way 253 = .ok (.iconst 1, 1) := by decide +kernel
theorem dX10_way_254 : decode cX10_way 254 = .ok (.isub, 1) := by decide +kernel
theorem dX10_way_255 : decode cX10_way 255 = .ok (.istore 4, 2) := by decide +kernel
theorem dX10_way_257 : decode cX10_way 257 = .ok (.aload_n 0, 1) := by decide +kernel
theorem dX10_way_258 : decode cX10_way 258 = .ok (.iload 5, 2) := by decide +kernel
theorem dX10_way_260 : decode cX10_way 260 = .ok (.iload 6, 2) := by decide +kernel
theorem dX10_way_262 : decode cX10_way 262 = .ok (.iload 8, 2) := by decide +kernel
theorem dX10_way_264 : decode cX10_way 264 = .ok (.invokevirtual 188, 3) := by decide +kernel
theorem dX10_way_267 : decode cX10_way 267 = .ok (.istore 5, 2) := by decide +kernel
theorem dX10_way_269 : decode cX10_way 269 = .ok (.aload_n 0, 1) := by decide +kernel
theorem dX10_way_270 : decode cX10_way 270 = .ok (.getfield 40, 3) := by decide +kernel
theorem dX10_way_273 : decode cX10_way 273 = .ok (.iload 6, 2) := by decide +kernel
theorem dX10_way_275 : decode cX10_way 275 = .ok (.iload 8, 2) := by decide +kernel
theorem dX10_way_277 : decode cX10_way 277 = .ok (.iastore, 1) := by decide +kernel
theorem dX10_way_278 : decode cX10_way 278 = .ok (.iinc 6 1, 3) := by decide +kernel
theorem dX10_way_281 : decode cX10_way 281 = .ok (.goto (-222), 3) := by decide +kernel
theorem dX10_way_284 : decode cX10_way 284 = .ok (.aload_n 0, 1) := by decide +kernel
theorem dX10_way_285 : decode cX10_way 285 = .ok (.iconst 1, 1) := by decide +kernel
theorem dX10_way_286 : decode cX10_way 286 = .ok (.putfield 203, 3) := by decide +kernel
theorem dX10_way_289 : decode cX10_way 289 = .ok (.iload_n 3, 1) := by decide +kernel
theorem dX10_way_290 : decode cX10_way 290 = .ok (.ireturn, 1) := by decide +kernel
theorem dX10_at_0 : decode cX10_at 0 = .ok (.iload_n 1, 1) := by decide +kernel
theorem dX10_at_1 : decode cX10_at 1 = .ok (.i2l, 1) := by decide +kernel
theorem dX10_at_2 : decode cX10_at 2 = .ok (.lconst 0, 1) := by decide +kernel
theorem dX10_at_3 : decode cX10_at 3 = .ok (.ldc2_w 151, 3) := by decide +kernel
theorem dX10_at_6 : decode cX10_at 6 = .ok (.invokestatic 71, 3) := by decide +kernel
theorem dX10_at_9 : decode cX10_at 9 = .ok (.ifCond .ne 10, 3) := by decide +kernel
theorem dX10_at_12 : decode cX10_at 12 = .ok (.aload_n 0, 1) := by decide +kernel
theorem dX10_at_13 : decode cX10_at 13 = .ok (.ldc 68, 2) := by decide +kernel
theorem dX10_at_15 : decode cX10_at 15 = .ok (.invokevirtual 86, 3) := by decide +kernel
theorem dX10_at_18 : decode cX10_at 18 = .ok (.ireturn, 1) := by decide +kernel
theorem dX10_at_19 : decode cX10_at 19 = .ok (.aload_n 0, 1) := by decide +kernel
theorem dX10_at_20 : decode cX10_at 20 = .ok (.getfield 203, 3) := by decide +kernel
theorem dX10_at_23 : decode cX10_at 23 = .ok (.ifCond .eq 12, 3) := by decide +kernel
theorem dX10_at_26 : decode cX10_at 26 = .ok (.aload_n 0, 1) := by decide +kernel
theorem dX10_at_27 : decode cX10_at 27 = .ok (.getfield 40, 3) := by decide +kernel
theorem dX10_at_30 : decode cX10_at 30 = .ok (.iload_n 1, 1) := by decide +kernel
theorem dX10_at_31 : decode cX10_at 31 = .ok (.iaload, 1) := by decide +kernel
theorem dX10_at_32 : decode cX10_at 32 = .ok (.goto 9, 3) := by decide +kernel
theorem dX10_at_35 : decode cX10_at 35 = .ok (.aload_n 0, 1) := by decide +kernel
theorem dX10_at_36 : decode cX10_at 36 = .ok (.ldc 97, 2) := by decide +kernel
theorem dX10_at_38 : decode cX10_at 38 = .ok (.invokevirtual 86, 3) := by decide +kernel
theorem dX10_at_41 : decode cX10_at 41 = .ok (.ireturn, 1) := by decide +kernel
theorem dX10_may_0 : decode cX10_may 0 = .ok (.iload_n 1, 1) := by decide +kernel
theorem dX10_may_1 : decode cX10_may 1 = .ok (.invokestatic 98, 3) := by decide +kernel
theorem dX10_may_4 : decode cX10_may 4 = .ok (.ifCond .eq 10, 3) := by decide +kernel
theorem dX10_may_7 : decode cX10_may 7 = .ok (.iload_n 2, 1) := by decide +kernel
theorem dX10_may_8 : decode cX10_may 8 = .ok (.invokestatic 101, 3) := by decide +kernel
theorem dX10_may_11 : decode cX10_may 11 = .ok (.ifCond .ne 10, 3) := by decide +kernel
theorem dX10_may_14 : decode cX10_may 14 = .ok (.aload_n 0, 1) := by decide +kernel
theorem dX10_may_15 : decode cX10_may 15 = .ok (.ldc 68, 2) := by decide +kernel
theorem dX10_may_17 : decode cX10_may 17 = .ok (.invokevirtual 86, 3) := by decide +kernel
theorem dX10_may_20 : decode cX10_may 20 = .ok (.ireturn, 1) := by decide +kernel
theorem dX10_may_21 : decode cX10_may 21 = .ok (.aload_n 0, 1) := by decide +kernel
theorem dX10_may_22 : decode cX10_may 22 = .ok (.iload_n 1, 1) := by decide +kernel
theorem dX10_may_23 : decode cX10_may 23 = .ok (.iload_n 2, 1) := by decide +kernel
theorem dX10_may_24 : decode cX10_may 24 = .ok (.bipush 100, 2) := by decide +kernel
theorem dX10_may_26 : decode cX10_may 26 = .ok (.idiv, 1) := by decide +kernel
theorem dX10_may_27 : decode cX10_may 27 = .ok (.iconst (-1), 1) := by decide +kernel
theorem dX10_may_28 : decode cX10_may 28 = .ok (.invokevirtual 196, 3) := by decide +kernel
theorem dX10_may_31 : decode cX10_may 31 = .ok (.iload_n 2, 1) := by decide +kernel
theorem dX10_may_32 : decode cX10_may 32 = .ok (.bipush 100, 2) := by decide +kernel
theorem dX10_may_34 : decode cX10_may 34 = .ok (.irem, 1) := by decide +kernel
theorem dX10_may_35 : decode cX10_may 35 = .ok (.istore_n 3, 1) := by decide +kernel
theorem dX10_may_36 : decode cX10_may 36 = .ok (.iconst 0, 1) := by decide +kernel
theorem dX10_may_37 : decode cX10_may 37 = .ok (.istore 4, 2) := by decide +kernel
theorem dX10_may_39 : decode cX10_may 39 = .ok (.iload 4, 2) := by decide +kernel
theorem dX10_may_41 : decode cX10_may 41 = .ok (.iload_n 3, 1) := by decide +kernel
theorem dX10_may_42 : decode cX10_may 42 = .ok (.if_icmp .gt 239, 3) := by decide +kernel
theorem dX10_may_45 : decode cX10_may 45 = .ok (.aload_n 0, 1) := by decide +kernel
theorem dX10_may_46 : decode cX10_may 46 = .ok (.iload 4, 2) := by decide +kernel
theorem dX10_may_48 : decode cX10_may 48 = .ok (.invokevirtual 185, 3) := by decide +kernel
theorem dX10_may_51 : decode cX10_may 51 = .ok (.istore 5, 2) := by decide +kernel
theorem dX10_may_53 : decode cX10_may 53 = .ok (.iconst 0, 1) := by decide +kernel
theorem dX10_may_54 : decode cX10_may 54 = .ok (.istore 6, 2) := by decide +kernel
theorem dX10_may_56 : decode cX10_may 56 = .ok (.iload 6, 2) := by decide +kernel
theorem dX10_may_58 : decode cX10_may 58 = .ok (.bipush 8, 2) := by decide +kernel
theorem dX10_may_60 : decode cX10_may 60 = .ok (.aload_n 0, 1) := by decide +kernel
theorem dX10_may_61 : decode cX10_may 61 = .ok (.getfield 179, 3) := by decide +kernel
theorem dX10_may_64 : decode cX10_may 64 = .ok (.imul, 1) := by decide +kernel
theorem dX10_may_65 : decode cX10_may 65 = .ok (.if_icmp .ge 44, 3) := by decide +kernel
theorem dX10_may_68 : decode cX10_may 68 = .ok (.aload_n 0, 1) := by decide +kernel
theorem dX10_may_69 : decode cX10_may 69 = .ok (.getfield 47, 3) := by decide +kernel
theorem dX10_may_72 : decode cX10_may 72 = .ok (.iload 6, 2) := by decide +kernel
theorem dX10_may_74 : decode cX10_may 74 = .ok (.iload 4, 2) := by decide +kernel
theorem dX10_may_76 : decode cX10_may 76 = .ok (.ifCond .le 17, 3) := by decide +kernel
theorem dX10_may_79 : decode cX10_may 79 = .ok (.aload_n 0, 1) := by decide +kernel
theorem dX10_may_80 : decode cX10_may 80 = .ok (.getfield 43, 3) := by decide +kernel
theorem dX10_may_83 : decode cX10_may 83 = .ok (.iload 6, 2) := by decide +kernel
theorem dX10_may_85 : decode cX10_may 85 = .ok (.baload, 1) := by decide +kernel
theorem dX10_may_86 : decode cX10_may 86 = .ok (.ifCond .eq 7, 3) := by decide +kernel
theorem dX10_may_89 : decode cX10_may 89 = .ok (.iconst 1, 1) := by decide +kernel
theorem dX10_may_90 : decode cX10_may 90 = .ok (.goto 4, 3) := by decide +kernel
theorem dX10_may_93 : decode cX10_may 93 = .ok (.iconst 0, 1) := by decide +kernel
theorem dX10_may_94 : decode cX10_may 94 = .ok (.bastore, 1) := by decide +kernel
theorem dX10_may_95 : decode cX10_may 95 = .ok (.aload_n 0, 1) := by decide +kernel
theorem dX10_may_96 : decode cX10_may 96 = .ok (.getfield 43, 3) := by decide +kernel
theorem dX10_may_99 : decode cX10_may 99 = .ok (.iload 6, 2) := by decide +kernel
theorem dX10_may_101 : decode cX10_may 101 = .ok (.iconst 0, 1) := by decide +kernel
theorem dX10_may_102 : decode cX10_may 102 = .ok (.bastore, 1) := by decide +kernel
theorem dX10_may_103 : decode cX10_may 103 = .ok (.iinc 6 1, 3) := by decide +kernel
theorem dX10_may_106 : decode cX10_may 106 = .ok (.goto (-50), 3) := by decide +kernel
theorem dX10_may_109 : decode cX10_may 109 = .ok (.iconst 0, 1) := by decide +kernel
theorem dX10_may_110 : decode cX10_may 110 = .ok (.istore 6, 2) := by decide +kernel
theorem dX10_may_112 : decode cX10_may 112 = .ok (.iload 6, 2) := by decide +kernel
theorem dX10_may_114 : decode cX10_may 114 = .ok (.bipush 8, 2) := by decide +kernel
theorem dX10_may_116 : decode cX10_may 116 = .ok (.if_icmp .ge 47, 3) := by decide +kernel
theorem dX10_may_119 : decode cX10_may 119 = .ok (.iload 4, 2) := by decide +kernel
theorem dX10_may_121 : decode cX10_may 121 = .ok (.ifCond .ne 36, 3) := by decide +kernel
theorem dX10_may_124 : decode cX10_may 124 = .ok (.iload 5, 2) := by decide +kernel
theorem dX10_may_126 : decode cX10_may 126 = .ok (.iload 6, 2) := by decide +kernel
theorem dX10_may_128 : decode cX10_may 128 = .ok (.invokestatic 90, 3) := by decide +kernel
theorem dX10_may_131 : decode cX10_may 131 = .ok (.ifCond .eq 26, 3) := by decide +kernel
theorem dX10_may_134 : decode cX10_may 134 = .ok (.aload_n 0, 1) := by decide +kernel
theorem dX10_may_135 : decode cX10_may 135 = .ok (.getfield 43, 3) := by decide +kernel
theorem dX10_may_138 : decode cX10_may 138 = .ok (.bipush 8, 2) := by decide +kernel
theorem dX10_may_140 : decode cX10_may 140 = .ok (.aload_n 0, 1) := by decide +kernel
theorem dX10_may_141 : decode cX10_may 141 = .ok (.aload_n 0, 1) := by decide +kernel
theorem dX10_may_142 : decode cX10_may 142 = .ok (.getfield 182, 3) := by decide +kernel
theorem dX10_may_145 : decode cX10_may 145 = .ok (.iconst 0, 1) := by decide +kernel
theorem dX10_may_146 : decode cX10_may 146 = .ok (.iload 6, 2) := by decide +kernel
theorem dX10_may_148 : decode cX10_may 148 = .ok (.invokevirtual 188, 3) := by decide +kernel
theorem dX10_may_151 : decode cX10_may 151 = .ok (.imul, 1) := by decide +kernel
theorem dX10_may_152 : decode cX10_may 152 = .ok (.iload 6, 2) := by decide +kernel
theorem dX10_may_154 : decode cX10_may 154 = .ok (.iadd, 1) := by decide +kernel
theorem dX10_may_155 : decode cX10_may 155 = .ok (.iconst 1, 1) := by decide +kernel
theorem dX10_may_156 : decode cX10_may 156 = .ok (.bastore, 1) := by decide +kernel
theorem dX10_may_157 : decode cX10_may 157 = .ok (.iinc 6 1, 3) := by decide +kernel
theorem dX10_may_160 : decode cX10_may 160 = .ok (.goto (-48), 3) := by decide +kernel
theorem dX10_may_163 : decode cX10_may 163 = .ok (.iconst 0, 1) := by decide +kernel
theorem dX10_may_164 : decode cX10_may 164 = .ok (.istore 6, 2) := by decide +kernel
theorem dX10_may_166 : decode cX10_may 166 = .ok (.iload 6, 2) := by decide +kernel
theorem dX10_may_168 : decode cX10_may 168 = .ok (.bipush 8, 2) := by decide +kernel
theorem dX10_may_170 : decode cX10_may 170 = .ok (.aload_n 0, 1) := by decide +kernel
theorem dX10_may_171 : decode cX10_may 171 = .ok (.getfield 179, 3) := by decide +kernel
theorem dX10_may_174 : decode cX10_may 174 = .ok (.imul, 1) := by decide +kernel
theorem dX10_may_175 : decode cX10_may 175 = .ok (.if_icmp .ge 100, 3) := by decide +kernel
theorem dX10_may_178 : decode cX10_may 178 = .ok (.iload 4, 2) := by decide +kernel
theorem dX10_may_180 : decode cX10_may 180 = .ok (.ifCond .le 95, 3) := by decide +kernel
theorem dX10_may_183 : decode cX10_may 183 = .ok (.aload_n 0, 1) := by decide +kernel
theorem dX10_may_184 : decode cX10_may 184 = .ok (.getfield 47, 3) := by decide +kernel
theorem dX10_may_187 : decode cX10_may 187 = .ok (.iload 6, 2) := by decide +kernel
theorem dX10_may_189 : decode cX10_may 189 = .ok (.baload, 1) := by decide +kernel
theorem dX10_may_190 : decode cX10_may 190 = .ok (.ifCond .eq 79, 3) := by decide +kernel
theorem dX10_may_193 : decode cX10_may 193 = .ok (.iconst 1, 1) := by decide +kernel
theorem dX10_may_194 : decode cX10_may 194 = .ok (.iload 6, 2) := by decide +kernel
theorem dX10_may_196 : decode cX10_may 196 = .ok (.bipush 8, 2) := by decide +kernel
theorem dX10_may_198 : decode cX10_may 198 = .ok (.irem, 1) := by decide +kernel
theorem dX10_may_199 : decode cX10_may 199 = .ok (.ishl, 1) := by decide +kernel
theorem dX10_may_200 : decode cX10_may 200 = .ok (.aload_n 0, 1) := by decide +kernel
theorem dX10_may_201 : decode cX10_may 201 = .ok (.getfield 7, 3) := by decide +kernel
theorem dX10_may_204 : decode cX10_may 204 = .ok (.iconst 0, 1) := by decide +kernel
theorem dX10_may_205 : decode cX10_may 205 = .ok (.iload 6, 2) := by decide +kernel
theorem dX10_may_207 : decode cX10_may 207 = .ok (.bipush 8, 2) := by decide +kernel
theorem dX10_may_209 : decode cX10_may 209 = .ok (.irem, 1) := by decide +kernel
theorem dX10_may_210 : decode cX10_may 210 = .ok (.iadd, 1) := by decide +kernel
theorem dX10_may_211 : decode cX10_may 211 = .ok (.iaload, 1) := by decide +kernel
theorem dX10_may_212 : decode cX10_may 212 = .ok (.ior, 1) := by decide +kernel
theorem dX10_may_213 : decode cX10_may 213 = .ok (.iload 5, 2) := by decide +kernel
theorem dX10_may_215 : decode cX10_may 215 = .ok (.iand, 1) := by decide +kernel
theorem dX10_may_216 : decode cX10_may 216 = .ok (.istore 7, 2) := by decide +kernel
theorem dX10_may_218 : decode cX10_may 218 = .ok (.iconst 0, 1) := by decide +kernel
theorem dX10_may_219 : decode cX10_may 219 = .ok (.istore 8, 2) := by decide +kernel
theorem dX10_may_221 : decode cX10_may 221 = .ok (.iload 8, 2) := by decide +kernel
theorem dX10_may_223 : decode cX10_may 223 = .ok (.bipush 8, 2) := by decide +kernel
theorem dX10_may_225 : decode cX10_may 225 = .ok (.if_icmp .ge 44, 3) := by decide +kernel
theorem dX10_may_228 : decode cX10_may 228 = .ok (.iload 7, 2) := by decide +kernel
theorem dX10_may_230 : decode cX10_may 230 = .ok (.iload 8, 2) := by decide +kernel
theorem dX10_may_232 : decode cX10_may 232 = .ok (.invokestatic 90, 3) := by decide +kernel
theorem dX10_may_235 : decode cX10_may 235 = .ok (.ifCond .eq 28, 3) := by decide +kernel
theorem dX10_may_238 : decode cX10_may 238 = .ok (.aload_n 0, 1) := by decide +kernel
theorem dX10_may_239 : decode cX10_may 239 = .ok (.getfield 43, 3) := by decide +kernel
theorem dX10_may_242 : decode cX10_may 242 = .ok (.bipush 8, 2) := by decide +kernel
theorem dX10_may_244 : decode cX10_may 244 = .ok (.aload_n 0, 1) := by decide +kernel
theorem dX10_may_245 : decode cX10_may 245 = .ok (.iload 6, 2) := by decide +kernel
theorem dX10_may_247 : decode cX10_may 247 = .ok (.bipush 8, 2) := by decide +kernel
theorem dX10_may_249 : decode cX10_may 249 = .ok (.idiv, 1) := by decide +kernel
theorem dX10_may_250 : decode cX10_may 250 = .ok (.iload 4, 2) := by decide +kernel
theorem dX10_may_252 : decode cX10_may 252 = .ok (.iload 8, 2) := by decide +kernel
theorem dX10_may_254 : decode cX10_may 254 = .ok (.invokevirtual 188, 3) := by decide +kernel
theorem dX10_may_257 : decode cX10_may 257 = .ok (.imul, 1) := by decide +kernel
theorem dX10_may_258 : decode cX10_may 258 = .ok (.iload 8, 2) := by decide +kernel
theorem dX10_may_260 : decode cX10_may 260 = .ok (.iadd, 1) := by decide +kernel
theorem dX10_may_261 : decode cX10_may 261 = .ok (.iconst 1, 1) := by decide +kernel
theorem dX10_may_262 : decode cX10_may 262 = .ok (.bastore, 1) := by decide +kernel
theorem dX10_may_263 : decode cX10_may 263 = .ok (.iinc 8 1, 3) := by decide +kernel
theorem dX10_may_266 : decode cX10_may 266 = .ok (.goto (-45), 3) := by decide +kernel
theorem dX10_may_269 : decode cX10_may 269 = .ok (.iinc 6 1, 3) := by decide +kernel
theorem dX10_may_272 : decode cX10_may 272 = .ok (.goto (-106), 3) := by decide +kernel
theorem dX10_may_275 : decode cX10_may 275 = .ok (.iinc 4 1, 3) := by decide +kernel
theorem dX10_may_278 : decode cX10_may 278 = .ok (.goto (-239), 3) := by decide +kernel
theorem dX10_may_281 : decode cX10_may 281 = .ok (.aload_n 0, 1) := by decide +kernel
theorem dX10_may_282 : decode cX10_may 282 = .ok (.iload_n 3, 1) := by decide +kernel
theorem dX10_may_283 : decode cX10_may 283 = .ok (.iconst 0, 1) := by decide +kernel
theorem dX10_may_284 : decode cX10_may 284 = .ok (.invokevirtual 192, 3) := by decide +kernel
theorem dX10_may_287 : decode cX10_may 287 = .ok (.iconst 0, 1) := by decide +kernel
theorem dX10_may_288 : decode cX10_may 288 = .ok (.istore 4, 2) := by decide +kernel
theorem dX10_may_290 : decode cX10_may 290 = .ok (.iconst 0, 1) := by decide +kernel
theorem dX10_may_291 : decode cX10_may 291 = .ok (.istore 5, 2) := by decide +kernel
theorem dX10_may_293 : decode cX10_may 293 = .ok (.iload 5, 2) := by decide +kernel
theorem dX10_may_295 : decode cX10_may 295 = .ok (.bipush 8, 2) := by decide +kernel
theorem dX10_may_297 : decode cX10_may 297 = .ok (.aload_n 0, 1) := by decide +kernel
theorem dX10_may_298 : decode cX10_may 298 = .ok (.getfield 179, 3) := by decide +kernel
theorem dX10_may_301 : decode cX10_may 301 = .ok (.imul, 1) := by decide +kernel
theorem dX10_may_302 : decode cX10_may 302 = .ok (.if_icmp .ge 48, 3) := by decide +kernel
theorem dX10_may_305 : decode cX10_may 305 = .ok (.iload 4, 2) := by decide +kernel
theorem dX10_may_307 : decode cX10_may 307 = .ok (.aload_n 0, 1) := by decide +kernel
theorem dX10_may_308 : decode cX10_may 308 = .ok (.getfield 43, 3) := by decide +kernel
theorem dX10_may_311 : decode cX10_may 311 = .ok (.iload 5, 2) := by decide +kernel
theorem dX10_may_313 : decode cX10_may 313 = .ok (.baload, 1) := by decide +kernel
theorem dX10_may_314 : decode cX10_may 314 = .ok (.ifCond .eq 26, 3) := by decide +kernel
theorem dX10_may_317 : decode cX10_may 317 = .ok (.aload_n 0, 1) := by decide +kernel
theorem dX10_may_318 : decode cX10_may 318 = .ok (.getfield 34, 3) := by decide +kernel
theorem dX10_may_321 : decode cX10_may 321 = .ok (.iload 5, 2) := by decide +kernel
theorem dX10_may_323 : decode cX10_may 323 = .ok (.iaload, 1) := by decide +kernel
theorem dX10_may_324 : decode cX10_may 324 = .ok (.sipush 1000, 3) := by decide +kernel
theorem dX10_may_327 : decode cX10_may 327 = .ok (.if_icmp .ge 13, 3) := by decide +kernel
theorem dX10_may_330 : decode cX10_may 330 = .ok (.iconst 1, 1) := by decide +kernel
theorem dX10_may_331 : decode cX10_may 331 = .ok (.iload 5, 2) := by decide +kernel
theorem dX10_may_333 : decode cX10_may 333 = .ok (.bipush 8, 2) := by decide +kernel
theorem dX10_may_335 : decode cX10_may 335 = .ok (.irem, 1) := by decide +kernel
theorem dX10_may_336 : decode cX10_may 336 = .ok (.ishl, 1) := by decide +kernel
theorem dX10_may_337 : decode cX10_may 337 = .ok (.goto 4, 3) := by decide +kernel
theorem dX10_may_340 : decode cX10_may 340 = .ok (.iconst 0, 1) := by decide +kernel
theorem dX10_may_341 : decode cX10_may 341 = .ok (.ior, 1) := by decide +kernel
theorem dX10_may_342 : decode cX10_may 342 = .ok (.istore 4, 2) := by decide +kernel
theorem dX10_may_344 : decode cX10_may 344 = .ok (.iinc 5 1, 3) := by decide +kernel
theorem dX10_may_347 : decode cX10_may 347 = .ok (.goto (-54), 3) := by decide +kernel
theorem dX10_may_350 : decode cX10_may 350 = .ok (.iload 4, 2) := by decide +kernel
theorem dX10_may_352 : decode cX10_may 352 = .ok (.ireturn, 1) := by decide +kernel
theorem dX10_ways_0 : decode cX10_ways 0 = .ok (.iload_n 1, 1) := by decide +kernel
theorem dX10_ways_1 : decode cX10_ways 1 = .ok (.invokestatic 98, 3) := by decide +kernel
theorem dX10_ways_4 : decode cX10_ways 4 = .ok (.ifCond .eq 10, 3) := by decide +kernel
theorem dX10_ways_7 : decode cX10_ways 7 = .ok (.iload_n 2, 1) := by decide +kernel
theorem dX10_ways_8 : decode cX10_ways 8 = .ok (.invokestatic 122, 3) := by decide +kernel
theorem dX10_ways_11 : decode cX10_ways 11 = .ok (.ifCond .ne 10, 3) := by decide +kernel
theorem dX10_ways_14 : decode cX10_ways 14 = .ok (.aload_n 0, 1) := by decide +kernel
theorem dX10_ways_15 : decode cX10_ways 15 = .ok (.ldc 68, 2) := by decide +kernel
theorem dX10_ways_17 : decode cX10_ways 17 = .ok (.invokevirtual 86, 3) := by decide +kernel
theorem dX10_ways_20 : decode cX10_ways 20 = .ok (.ireturn, 1) := by decide +kernel
theorem dX10_ways_21 : decode cX10_ways 21 = .ok (.aload_n 0, 1) := by decide +kernel
theorem dX10_ways_22 : decode cX10_ways 22 = .ok (.iload_n 1, 1) := by decide +kernel
theorem dX10_ways_23 : decode cX10_ways 23 = .ok (.iload_n 2, 1) := by decide +kernel
theorem dX10_ways_24 : decode cX10_ways 24 = .ok (.iconst (-1), 1) := by decide +kernel
theorem dX10_ways_25 : decode cX10_ways 25 = .ok (.invokevirtual 196, 3) := by decide +kernel
theorem dX10_ways_28 : decode cX10_ways 28 = .ok (.aload_n 0, 1) := by decide +kernel
theorem dX10_ways_29 : decode cX10_ways 29 = .ok (.iconst 0, 1) := by decide +kernel
theorem dX10_ways_30 : decode cX10_ways 30 = .ok (.iconst 1, 1) := by decide +kernel
theorem dX10_ways_31 : decode cX10_ways 31 = .ok (.invokevirtual 192, 3) := by decide +kernel
theorem dX10_ways_34 : decode cX10_ways 34 = .ok (.iconst 0, 1) := by decide +kernel
theorem dX10_ways_35 : decode cX10_ways 35 = .ok (.istore_n 3, 1) := by decide +kernel
theorem dX10_ways_36 : decode cX10_ways 36 = .ok (.aload_n 0, 1) := by decide +kernel
theorem dX10_ways_37 : decode cX10_ways 37 = .ok (.iconst 0, 1) := by decide +kernel
theorem dX10_ways_38 : decode cX10_ways 38 = .ok (.invokevirtual 185, 3) := by decide +kernel
theorem dX10_ways_41 : decode cX10_ways 41 = .ok (.istore 4, 2) := by decide +kernel
theorem dX10_ways_43 : decode cX10_ways 43 = .ok (.iconst 0, 1) := by decide +kernel
theorem dX10_ways_44 : decode cX10_ways 44 = .ok (.istore 5, 2) := by decide +kernel
theorem dX10_ways_46 : decode cX10_ways 46 = .ok (.iload 5, 2) := by decide +kernel
theorem dX10_ways_48 : decode cX10_ways 48 = .ok (.bipush 8, 2) := by decide +kernel
theorem dX10_ways_50 : decode cX10_ways 50 = .ok (.if_icmp .ge 48, 3) := by decide +kernel
theorem dX10_ways_53 : decode cX10_ways 53 = .ok (.iload_n 3, 1) := by decide +kernel
theorem dX10_ways_54 : decode cX10_ways 54 = .ok (.iload 4, 2) := by decide +kernel
theorem dX10_ways_56 : decode cX10_ways 56 = .ok (.iload 5, 2) := by decide +kernel
theorem dX10_ways_58 : decode cX10_ways 58 = .ok (.invokestatic 90, 3) := by decide +kernel
theorem dX10_ways_61 : decode cX10_ways 61 = .ok (.ifCond .eq 28, 3) := by decide +kernel
theorem dX10_ways_64 : decode cX10_ways 64 = .ok (.aload_n 0, 1) := by decide +kernel
theorem dX10_ways_65 : decode cX10_ways 65 = .ok (.getfield 34, 3) := by decide +kernel
theorem dX10_ways_68 : decode cX10_ways 68 = .ok (.bipush 8, 2) := by decide +kernel
theorem dX10_ways_70 : decode cX10_ways 70 = .ok (.aload_n 0, 1) := by decide +kernel
theorem dX10_ways_71 : decode cX10_ways 71 = .ok (.aload_n 0, 1) := by decide +kernel
theorem dX10_ways_72 : decode cX10_ways 72 = .ok (.getfield 182, 3) := by decide +kernel
theorem dX10_ways_75 : decode cX10_ways 75 = .ok (.iconst 0, 1) := by decide +kernel
theorem dX10_ways_76 : decode cX10_ways 76 = .ok (.iload 5, 2) := by decide +kernel
theorem dX10_ways_78 : decode cX10_ways 78 = .ok (.invokevirtual 188, 3) := by decide +kernel
theorem dX10_ways_81 : decode cX10_ways 81 = .ok (.imul, 1) := by decide +kernel
theorem dX10_ways_82 : decode cX10_ways 82 = .ok (.iload 5, 2) := by decide +kernel
theorem dX10_ways_84 : decode cX10_ways 84 = .ok (.iadd, 1) := by decide +kernel
theorem dX10_ways_85 : decode cX10_ways 85 = .ok (.iaload, 1) := by decide +kernel
theorem dX10_ways_86 : decode cX10_ways 86 = .ok (.goto 4, 3) := by decide +kernel
theorem dX10_ways_89 : decode cX10_ways 89 = .ok (.iconst 0, 1) := by decide +kernel
theorem dX10_ways_90 : decode cX10_ways 90 = .ok (.iadd, 1) := by decide +kernel
theorem dX10_ways_91 : decode cX10_ways 91 = .ok (.istore_n 3, 1) := by decide +kernel
theorem dX10_ways_92 : decode cX10_ways 92 = .ok (.iinc 5 1, 3) := by decide +kernel
theorem dX10_ways_95 : decode cX10_ways 95 = .ok (.goto (-49), 3) := by decide +kernel
theorem dX10_ways_98 : decode cX10_ways 98 = .ok (.iload_n 3, 1) := by decide +kernel
