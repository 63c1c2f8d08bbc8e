theorem d_M_add_0 : decode b_M_add 0 = .ok (.aload_n 0, 1) := by decide +kernel
theorem d_M_add_1 : decode b_M_add 1 = .ok (.getfield 74, 3) := by decide +kernel
theorem d_M_add_4 : decode b_M_add 4 = .ok (.aload_n 0, 1) := by decide +kernel
theorem d_M_add_5 : decode b_M_add 5 = .ok (.getfield 81, 3) := by decide +kernel
theorem d_M_add_8 : decode b_M_add 8 = .ok (.iload_n 1, 1) := by decide +kernel
theorem d_M_add_9 : decode b_M_add 9 = .ok (.iastore, 1) := by decide +kernel
theorem d_M_add_10 : decode b_M_add 10 = .ok (.aload_n 0, 1) := by decide +kernel
theorem d_M_add_11 : decode b_M_add 11 = .ok (.dup, 1) := by decide +kernel
theorem d_M_add_12 : decode b_M_add 12 = .ok (.getfield 81, 3) := by decide +kernel
theorem d_M_add_15 : decode b_M_add 15 = .ok (.iconst 1, 1) := by decide +kernel
theorem d_M_add_16 : decode b_M_add 16 = .ok (.iadd, 1) := by decide +kernel
theorem d_M_add_17 : decode b_M_add 17 = .ok (.putfield 81, 3) := by decide +kernel
theorem d_M_add_20 : decode b_M_add 20 = .ok (.return_, 1) := by decide +kernel
theorem d_M_answer_0 : decode b_M_answer 0 = .ok (.aload_n 0, 1) := by decide +kernel
theorem d_M_answer_1 : decode b_M_answer 1 = .ok (.iload_n 2, 1) := by decide +kernel
theorem d_M_answer_2 : decode b_M_answer 2 = .ok (.putfield 67, 3) := by decide +kernel
theorem d_M_answer_5 : decode b_M_answer 5 = .ok (.iload_n 1, 1) := by decide +kernel
theorem d_M_answer_6 : decode b_M_answer 6 = .ok (.ireturn, 1) := by decide +kernel
theorem d_M_answers_0 : decode b_M_answers 0 = .ok (.iload_n 1, 1) := by decide +kernel
theorem d_M_answers_1 : decode b_M_answers 1 = .ok (.tableswitch 101 0 5 #[39, 52, 59, 68, 81, 94], 39) := by decide +kernel
theorem d_M_answers_40 : decode b_M_answers 40 = .ok (.lload_n 2, 1) := by decide +kernel
theorem d_M_answers_41 : decode b_M_answers 41 = .ok (.lload 4, 2) := by decide +kernel
theorem d_M_answers_43 : decode b_M_answers 43 = .ok (.lcmp, 1) := by decide +kernel
theorem d_M_answers_44 : decode b_M_answers 44 = .ok (.ifCond .ne 7, 3) := by decide +kernel
theorem d_M_answers_47 : decode b_M_answers 47 = .ok (.iconst 1, 1) := by decide +kernel
theorem d_M_answers_48 : decode b_M_answers 48 = .ok (.goto 4, 3) := by decide +kernel
theorem d_M_answers_51 : decode b_M_answers 51 = .ok (.iconst 0, 1) := by decide +kernel
theorem d_M_answers_52 : decode b_M_answers 52 = .ok (.ireturn, 1) := by decide +kernel
theorem d_M_answers_53 : decode b_M_answers 53 = .ok (.lload_n 2, 1) := by decide +kernel
theorem d_M_answers_54 : decode b_M_answers 54 = .ok (.lload 4, 2) := by decide +kernel
theorem d_M_answers_56 : decode b_M_answers 56 = .ok (.invokestatic 116, 3) := by decide +kernel
theorem d_M_answers_59 : decode b_M_answers 59 = .ok (.ireturn, 1) := by decide +kernel
theorem d_M_answers_60 : decode b_M_answers 60 = .ok (.aload_n 0, 1) := by decide +kernel
theorem d_M_answers_61 : decode b_M_answers 61 = .ok (.lload 4, 2) := by decide +kernel
theorem d_M_answers_63 : decode b_M_answers 63 = .ok (.lload_n 2, 1) := by decide +kernel
theorem d_M_answers_64 : decode b_M_answers 64 = .ok (.iconst 0, 1) := by decide +kernel
theorem d_M_answers_65 : decode b_M_answers 65 = .ok (.invokevirtual 120, 3) := by decide +kernel
theorem d_M_answers_68 : decode b_M_answers 68 = .ok (.ireturn, 1) := by decide +kernel
theorem d_M_answers_69 : decode b_M_answers 69 = .ok (.lload_n 2, 1) := by decide +kernel
theorem d_M_answers_70 : decode b_M_answers 70 = .ok (.lload 4, 2) := by decide +kernel
theorem d_M_answers_72 : decode b_M_answers 72 = .ok (.lcmp, 1) := by decide +kernel
theorem d_M_answers_73 : decode b_M_answers 73 = .ok (.ifCond .ge 7, 3) := by decide +kernel
theorem d_M_answers_76 : decode b_M_answers 76 = .ok (.iconst 1, 1) := by decide +kernel
theorem d_M_answers_77 : decode b_M_answers 77 = .ok (.goto 4, 3) := by decide +kernel
theorem d_M_answers_80 : decode b_M_answers 80 = .ok (.iconst 0, 1) := by decide +kernel
theorem d_M_answers_81 : decode b_M_answers 81 = .ok (.ireturn, 1) := by decide +kernel
theorem d_M_answers_82 : decode b_M_answers 82 = .ok (.lload_n 2, 1) := by decide +kernel
theorem d_M_answers_83 : decode b_M_answers 83 = .ok (.lload 4, 2) := by decide +kernel
theorem d_M_answers_85 : decode b_M_answers 85 = .ok (.lcmp, 1) := by decide +kernel
theorem d_M_answers_86 : decode b_M_answers 86 = .ok (.ifCond .gt 7, 3) := by decide +kernel
theorem d_M_answers_89 : decode b_M_answers 89 = .ok (.iconst 1, 1) := by decide +kernel
theorem d_M_answers_90 : decode b_M_answers 90 = .ok (.goto 4, 3) := by decide +kernel
theorem d_M_answers_93 : decode b_M_answers 93 = .ok (.iconst 0, 1) := by decide +kernel
theorem d_M_answers_94 : decode b_M_answers 94 = .ok (.ireturn, 1) := by decide +kernel
theorem d_M_answers_95 : decode b_M_answers 95 = .ok (.lload_n 2, 1) := by decide +kernel
theorem d_M_answers_96 : decode b_M_answers 96 = .ok (.lload 4, 2) := by decide +kernel
theorem d_M_answers_98 : decode b_M_answers 98 = .ok (.invokestatic 124, 3) := by decide +kernel
theorem d_M_answers_101 : decode b_M_answers 101 = .ok (.ireturn, 1) := by decide +kernel
theorem d_M_answers_102 : decode b_M_answers 102 = .ok (.lload_n 2, 1) := by decide +kernel
theorem d_M_answers_103 : decode b_M_answers 103 = .ok (.lconst 0, 1) := by decide +kernel
theorem d_M_answers_104 : decode b_M_answers 104 = .ok (.lcmp, 1) := by decide +kernel
theorem d_M_answers_105 : decode b_M_answers 105 = .ok (.ifCond .ne 7, 3) := by decide +kernel
theorem d_M_answers_108 : decode b_M_answers 108 = .ok (.iconst 1, 1) := by decide +kernel
theorem d_M_answers_109 : decode b_M_answers 109 = .ok (.goto 4, 3) := by decide +kernel
theorem d_M_answers_112 : decode b_M_answers 112 = .ok (.iconst 0, 1) := by decide +kernel
theorem d_M_answers_113 : decode b_M_answers 113 = .ok (.lload 4, 2) := by decide +kernel
theorem d_M_answers_115 : decode b_M_answers 115 = .ok (.lconst 0, 1) := by decide +kernel
theorem d_M_answers_116 : decode b_M_answers 116 = .ok (.lcmp, 1) := by decide +kernel
theorem d_M_answers_117 : decode b_M_answers 117 = .ok (.ifCond .ne 7, 3) := by decide +kernel
theorem d_M_answers_120 : decode b_M_answers 120 = .ok (.iconst 1, 1) := by decide +kernel
theorem d_M_answers_121 : decode b_M_answers 121 = .ok (.goto 4, 3) := by decide +kernel
theorem d_M_answers_124 : decode b_M_answers 124 = .ok (.iconst 0, 1) := by decide +kernel
theorem d_M_answers_125 : decode b_M_answers 125 = .ok (.if_icmp .ne 7, 3) := by decide +kernel
theorem d_M_answers_128 : decode b_M_answers 128 = .ok (.iconst 1, 1) := by decide +kernel
theorem d_M_answers_129 : decode b_M_answers 129 = .ok (.goto 4, 3) := by decide +kernel
theorem d_M_answers_132 : decode b_M_answers 132 = .ok (.iconst 0, 1) := by decide +kernel
theorem d_M_answers_133 : decode b_M_answers 133 = .ok (.ireturn, 1) := by decide +kernel
theorem d_M_applied_0 : decode b_M_applied 0 = .ok (.aload_n 0, 1) := by decide +kernel
theorem d_M_applied_1 : decode b_M_applied 1 = .ok (.getfield 67, 3) := by decide +kernel
theorem d_M_applied_4 : decode b_M_applied 4 = .ok (.ifCond .lt 11, 3) := by decide +kernel
theorem d_M_applied_7 : decode b_M_applied 7 = .ok (.iload_n 1, 1) := by decide +kernel
theorem d_M_applied_8 : decode b_M_applied 8 = .ok (.iconst 5, 1) := by decide +kernel
theorem d_M_applied_9 : decode b_M_applied 9 = .ok (.invokestatic 106, 3) := by decide +kernel
theorem d_M_applied_12 : decode b_M_applied 12 = .ok (.ifCond .ne 7, 3) := by decide +kernel
theorem d_M_applied_15 : decode b_M_applied 15 = .ok (.iconst (-1), 1) := by decide +kernel
theorem d_M_applied_16 : decode b_M_applied 16 = .ok (.goto 9, 3) := by decide +kernel
theorem d_M_applied_19 : decode b_M_applied 19 = .ok (.aload_n 0, 1) := by decide +kernel
theorem d_M_applied_20 : decode b_M_applied 20 = .ok (.getfield 71, 3) := by decide +kernel
theorem d_M_applied_23 : decode b_M_applied 23 = .ok (.iload_n 1, 1) := by decide +kernel
theorem d_M_applied_24 : decode b_M_applied 24 = .ok (.iaload, 1) := by decide +kernel
theorem d_M_applied_25 : decode b_M_applied 25 = .ok (.ireturn, 1) := by decide +kernel
theorem d_M_charAt_0 : decode b_M_charAt 0 = .ok (.lload_n 0, 1) := by decide +kernel
theorem d_M_charAt_1 : decode b_M_charAt 1 = .ok (.bipush 8, 2) := by decide +kernel
theorem d_M_charAt_3 : decode b_M_charAt 3 = .ok (.iload_n 2, 1) := by decide +kernel
theorem d_M_charAt_4 : decode b_M_charAt 4 = .ok (.imul, 1) := by decide +kernel
theorem d_M_charAt_5 : decode b_M_charAt 5 = .ok (.lushr, 1) := by decide +kernel
theorem d_M_charAt_6 : decode b_M_charAt 6 = .ok (.l2i, 1) := by decide +kernel
theorem d_M_charAt_7 : decode b_M_charAt 7 = .ok (.sipush 255, 3) := by decide +kernel
theorem d_M_charAt_10 : decode b_M_charAt 10 = .ok (.iand, 1) := by decide +kernel
theorem d_M_charAt_11 : decode b_M_charAt 11 = .ok (.ireturn, 1) := by decide +kernel
theorem d_M_decide_0 : decode b_M_decide 0 = .ok (.iload_n 1, 1) := by decide +kernel
theorem d_M_decide_1 : decode b_M_decide 1 = .ok (.bipush 9, 2) := by decide +kernel
theorem d_M_decide_3 : decode b_M_decide 3 = .ok (.invokestatic 106, 3) := by decide +kernel
theorem d_M_decide_6 : decode b_M_decide 6 = .ok (.ifCond .eq 22, 3) := by decide +kernel
theorem d_M_decide_9 : decode b_M_decide 9 = .ok (.iload_n 2, 1) := by decide +kernel
theorem d_M_decide_10 : decode b_M_decide 10 = .ok (.bipush 9, 2) := by decide +kernel
theorem d_M_decide_12 : decode b_M_decide 12 = .ok (.invokestatic 106, 3) := by decide +kernel
theorem d_M_decide_15 : decode b_M_decide 15 = .ok (.ifCond .eq 13, 3) := by decide +kernel
theorem d_M_decide_18 : decode b_M_decide 18 = .ok (.iload 7, 2) := by decide +kernel
theorem d_M_decide_20 : decode b_M_decide 20 = .ok (.bipush 9, 2) := by decide +kernel
theorem d_M_decide_22 : decode b_M_decide 22 = .ok (.invokestatic 106, 3) := by decide +kernel
theorem d_M_decide_25 : decode b_M_decide 25 = .ok (.ifCond .ne 6, 3) := by decide +kernel
theorem d_M_decide_28 : decode b_M_decide 28 = .ok (.bipush (-2), 2) := by decide +kernel
theorem d_M_decide_30 : decode b_M_decide 30 = .ok (.ireturn, 1) := by decide +kernel
theorem d_M_decide_31 : decode b_M_decide 31 = .ok (.aload_n 0, 1) := by decide +kernel
theorem d_M_decide_32 : decode b_M_decide 32 = .ok (.invokevirtual 135, 3) := by decide +kernel
theorem d_M_decide_35 : decode b_M_decide 35 = .ok (.iconst 0, 1) := by decide +kernel
theorem d_M_decide_36 : decode b_M_decide 36 = .ok (.istore 8, 2) := by decide +kernel
theorem d_M_decide_38 : decode b_M_decide 38 = .ok (.iload 8, 2) := by decide +kernel
theorem d_M_decide_40 : decode b_M_decide 40 = .ok (.bipush 6, 2) := by decide +kernel
theorem d_M_decide_42 : decode b_M_decide 42 = .ok (.if_icmp .ge 77, 3) := by decide +kernel
theorem d_M_decide_45 : decode b_M_decide 45 = .ok (.aload_n 0, 1) := by decide +kernel
theorem d_M_decide_46 : decode b_M_decide 46 = .ok (.getfield 71, 3) := by decide +kernel
theorem d_M_decide_49 : decode b_M_decide 49 = .ok (.iload 8, 2) := by decide +kernel
theorem d_M_decide_51 : decode b_M_decide 51 = .ok (.iconst 0, 1) := by decide +kernel
theorem d_M_decide_52 : decode b_M_decide 52 = .ok (.iastore, 1) := by decide +kernel
theorem d_M_decide_53 : decode b_M_decide 53 = .ok (.iconst 0, 1) := by decide +kernel
theorem d_M_decide_54 : decode b_M_decide 54 = .ok (.istore 9, 2) := by decide +kernel
theorem d_M_decide_56 : decode b_M_decide 56 = .ok (.iload 9, 2) := by decide +kernel
theorem d_M_decide_58 : decode b_M_decide 58 = .ok (.aload_n 0, 1) := by decide +kernel
theorem d_M_decide_59 : decode b_M_decide 59 = .ok (.getfield 49, 3) := by decide +kernel
theorem d_M_decide_62 : decode b_M_decide 62 = .ok (.iload 8, 2) := by decide +kernel
theorem d_M_decide_64 : decode b_M_decide 64 = .ok (.iaload, 1) := by decide +kernel
theorem d_M_decide_65 : decode b_M_decide 65 = .ok (.if_icmp .ge 48, 3) := by decide +kernel
theorem d_M_decide_68 : decode b_M_decide 68 = .ok (.aload_n 0, 1) := by decide +kernel
theorem d_M_decide_69 : decode b_M_decide 69 = .ok (.bipush 6, 2) := by decide +kernel
theorem d_M_decide_71 : decode b_M_decide 71 = .ok (.iload 8, 2) := by decide +kernel
theorem d_M_decide_73 : decode b_M_decide 73 = .ok (.imul, 1) := by decide +kernel
theorem d_M_decide_74 : decode b_M_decide 74 = .ok (.iload 9, 2) := by decide +kernel
theorem d_M_decide_76 : decode b_M_decide 76 = .ok (.iadd, 1) := by decide +kernel
theorem d_M_decide_77 : decode b_M_decide 77 = .ok (.iload_n 1, 1) := by decide +kernel
theorem d_M_decide_78 : decode b_M_decide 78 = .ok (.iload_n 2, 1) := by decide +kernel
theorem d_M_decide_79 : decode b_M_decide 79 = .ok (.lload_n 3, 1) := by decide +kernel
theorem d_M_decide_80 : decode b_M_decide 80 = .ok (.lload 5, 2) := by decide +kernel
theorem d_M_decide_82 : decode b_M_decide 82 = .ok (.invokevirtual 138, 3) := by decide +kernel
theorem d_M_decide_85 : decode b_M_decide 85 = .ok (.ifCond .eq 22, 3) := by decide +kernel
theorem d_M_decide_88 : decode b_M_decide 88 = .ok (.aload_n 0, 1) := by decide +kernel
theorem d_M_decide_89 : decode b_M_decide 89 = .ok (.getfield 71, 3) := by decide +kernel
theorem d_M_decide_92 : decode b_M_decide 92 = .ok (.iload 8, 2) := by decide +kernel
theorem d_M_decide_94 : decode b_M_decide 94 = .ok (.aload_n 0, 1) := by decide +kernel
theorem d_M_decide_95 : decode b_M_decide 95 = .ok (.getfield 71, 3) := by decide +kernel
theorem d_M_decide_98 : decode b_M_decide 98 = .ok (.iload 8, 2) := by decide +kernel
theorem d_M_decide_100 : decode b_M_decide 100 = .ok (.iaload, 1) := by decide +kernel
theorem d_M_decide_101 : decode b_M_decide 101 = .ok (.iconst 1, 1) := by decide +kernel
theorem d_M_decide_102 : decode b_M_decide 102 = .ok (.iload 9, 2) := by decide +kernel
theorem d_M_decide_104 : decode b_M_decide 104 = .ok (.ishl, 1) := by decide +kernel
theorem d_M_decide_105 : decode b_M_decide 105 = .ok (.ior, 1) := by decide +kernel
theorem d_M_decide_106 : decode b_M_decide 106 = .ok (.iastore, 1) := by decide +kernel
theorem d_M_decide_107 : decode b_M_decide 107 = .ok (.iinc 9 1, 3) := by decide +kernel
theorem d_M_decide_110 : decode b_M_decide 110 = .ok (.goto (-54), 3) := by decide +kernel
theorem d_M_decide_113 : decode b_M_decide 113 = .ok (.iinc 8 1, 3) := by decide +kernel
theorem d_M_decide_116 : decode b_M_decide 116 = .ok (.goto (-78), 3) := by decide +kernel
theorem d_M_decide_119 : decode b_M_decide 119 = .ok (.iconst 0, 1) := by decide +kernel
theorem d_M_decide_120 : decode b_M_decide 120 = .ok (.istore 8, 2) := by decide +kernel
theorem d_M_decide_122 : decode b_M_decide 122 = .ok (.iload 8, 2) := by decide +kernel
theorem d_M_decide_124 : decode b_M_decide 124 = .ok (.bipush 6, 2) := by decide +kernel
theorem d_M_decide_126 : decode b_M_decide 126 = .ok (.if_icmp .ge 28, 3) := by decide +kernel
theorem d_M_decide_129 : decode b_M_decide 129 = .ok (.aload_n 0, 1) := by decide +kernel
theorem d_M_decide_130 : decode b_M_decide 130 = .ok (.iload 8, 2) := by decide +kernel
theorem d_M_decide_132 : decode b_M_decide 132 = .ok (.iconst 1, 1) := by decide +kernel
theorem d_M_decide_133 : decode b_M_decide 133 = .ok (.iconst (-1), 1) := by decide +kernel
theorem d_M_decide_134 : decode b_M_decide 134 = .ok (.invokevirtual 142, 3) := by decide +kernel
theorem d_M_decide_137 : decode b_M_decide 137 = .ok (.ifCond .eq 11, 3) := by decide +kernel
theorem d_M_decide_140 : decode b_M_decide 140 = .ok (.aload_n 0, 1) := by decide +kernel
theorem d_M_decide_141 : decode b_M_decide 141 = .ok (.iconst (-1), 1) := by decide +kernel
theorem d_M_decide_142 : decode b_M_decide 142 = .ok (.iload 8, 2) := by decide +kernel
theorem d_M_decide_144 : decode b_M_decide 144 = .ok (.invokevirtual 146, 3) := by decide +kernel
theorem d_M_decide_147 : decode b_M_decide 147 = .ok (.ireturn, 1) := by decide +kernel
theorem d_M_decide_148 : decode b_M_decide 148 = .ok (.iinc 8 1, 3) := by decide +kernel
theorem d_M_decide_151 : decode b_M_decide 151 = .ok (.goto (-29), 3) := by decide +kernel
theorem d_M_decide_154 : decode b_M_decide 154 = .ok (.iload 7, 2) := by decide +kernel
theorem d_M_decide_156 : decode b_M_decide 156 = .ok (.iload_n 1, 1) := by decide +kernel
theorem d_M_decide_157 : decode b_M_decide 157 = .ok (.if_icmp .eq 7, 3) := by decide +kernel
theorem d_M_decide_160 : decode b_M_decide 160 = .ok (.iconst 1, 1) := by decide +kernel
theorem d_M_decide_161 : decode b_M_decide 161 = .ok (.goto 4, 3) := by decide +kernel
theorem d_M_decide_164 : decode b_M_decide 164 = .ok (.iconst 0, 1) := by decide +kernel
theorem d_M_decide_165 : decode b_M_decide 165 = .ok (.istore 8, 2) := by decide +kernel
theorem d_M_decide_167 : decode b_M_decide 167 = .ok (.aload_n 0, 1) := by decide +kernel
theorem d_M_decide_168 : decode b_M_decide 168 = .ok (.iconst 4, 1) := by decide +kernel
theorem d_M_decide_169 : decode b_M_decide 169 = .ok (.iconst 0, 1) := by decide +kernel
theorem d_M_decide_170 : decode b_M_decide 170 = .ok (.iconst (-1), 1) := by decide +kernel
theorem d_M_decide_171 : decode b_M_decide 171 = .ok (.invokevirtual 142, 3) := by decide +kernel
theorem d_M_decide_174 : decode b_M_decide 174 = .ok (.istore 9, 2) := by decide +kernel
theorem d_M_decide_176 : decode b_M_decide 176 = .ok (.aload_n 0, 1) := by decide +kernel
theorem d_M_decide_177 : decode b_M_decide 177 = .ok (.iconst 5, 1) := by decide +kernel
theorem d_M_decide_178 : decode b_M_decide 178 = .ok (.iconst 0, 1) := by decide +kernel
theorem d_M_decide_179 : decode b_M_decide 179 = .ok (.iconst (-1), 1) := by decide +kernel
theorem d_M_decide_180 : decode b_M_decide 180 = .ok (.invokevirtual 142, 3) := by decide +kernel
theorem d_M_decide_183 : decode b_M_decide 183 = .ok (.istore 10, 2) := by decide +kernel
theorem d_M_decide_185 : decode b_M_decide 185 = .ok (.aload_n 0, 1) := by decide +kernel
theorem d_M_decide_186 : decode b_M_decide 186 = .ok (.getfield 46, 3) := by decide +kernel
theorem d_M_decide_189 : decode b_M_decide 189 = .ok (.iconst 0, 1) := by decide +kernel
theorem d_M_decide_190 : decode b_M_decide 190 = .ok (.baload, 1) := by decide +kernel
theorem d_M_decide_191 : decode b_M_decide 191 = .ok (.ifCond .eq 20, 3) := by decide +kernel
theorem d_M_decide_194 : decode b_M_decide 194 = .ok (.aload_n 0, 1) := by decide +kernel
theorem d_M_decide_195 : decode b_M_decide 195 = .ok (.iconst 0, 1) := by decide +kernel
theorem d_M_decide_196 : decode b_M_decide 196 = .ok (.iconst 0, 1) := by decide +kernel
theorem d_M_decide_197 : decode b_M_decide 197 = .ok (.iconst (-1), 1) := by decide +kernel
theorem d_M_decide_198 : decode b_M_decide 198 = .ok (.invokevirtual 142, 3) := by decide +kernel
theorem d_M_decide_201 : decode b_M_decide 201 = .ok (.ifCond .ne 10, 3) := by decide +kernel
theorem d_M_decide_204 : decode b_M_decide 204 = .ok (.aload_n 0, 1) := by decide +kernel
theorem d_M_decide_205 : decode b_M_decide 205 = .ok (.iconst 0, 1) := by decide +kernel
theorem d_M_decide_206 : decode b_M_decide 206 = .ok (.iconst 0, 1) := by decide +kernel
theorem d_M_decide_207 : decode b_M_decide 207 = .ok (.invokevirtual 146, 3) := by decide +kernel
theorem d_M_decide_210 : decode b_M_decide 210 = .ok (.ireturn, 1) := by decide +kernel
theorem d_M_decide_211 : decode b_M_decide 211 = .ok (.aload_n 0, 1) := by decide +kernel
theorem d_M_decide_212 : decode b_M_decide 212 = .ok (.getfield 46, 3) := by decide +kernel
theorem d_M_decide_215 : decode b_M_decide 215 = .ok (.iconst 1, 1) := by decide +kernel
theorem d_M_decide_216 : decode b_M_decide 216 = .ok (.baload, 1) := by decide +kernel
theorem d_M_decide_217 : decode b_M_decide 217 = .ok (.ifCond .eq 20, 3) := by decide +kernel
theorem d_M_decide_220 : decode b_M_decide 220 = .ok (.aload_n 0, 1) := by decide +kernel
theorem d_M_decide_221 : decode b_M_decide 221 = .ok (.iconst 1, 1) := by decide +kernel
theorem d_M_decide_222 : decode b_M_decide 222 = .ok (.iconst 0, 1) := by decide +kernel
theorem d_M_decide_223 : decode b_M_decide 223 = .ok (.iconst (-1), 1) := by decide +kernel
theorem d_M_decide_224 : decode b_M_decide 224 = .ok (.invokevirtual 142, 3) := by decide +kernel
theorem d_M_decide_227 : decode b_M_decide 227 = .ok (.ifCond .ne 10, 3) := by decide +kernel
theorem d_M_decide_230 : decode b_M_decide 230 = .ok (.aload_n 0, 1) := by decide +kernel
theorem d_M_decide_231 : decode b_M_decide 231 = .ok (.iconst 0, 1) := by decide +kernel
theorem d_M_decide_232 : decode b_M_decide 232 = .ok (.iconst 1, 1) := by decide +kernel
theorem d_M_decide_233 : decode b_M_decide 233 = .ok (.invokevirtual 146, 3) := by decide +kernel
theorem d_M_decide_236 : decode b_M_decide 236 = .ok (.ireturn, 1) := by decide +kernel
theorem d_M_decide_237 : decode b_M_decide 237 = .ok (.iload 8, 2) := by decide +kernel
theorem d_M_decide_239 : decode b_M_decide 239 = .ok (.ifCond .ne 28, 3) := by decide +kernel
theorem d_M_decide_242 : decode b_M_decide 242 = .ok (.aload_n 0, 1) := by decide +kernel
theorem d_M_decide_243 : decode b_M_decide 243 = .ok (.iconst 5, 1) := by decide +kernel
theorem d_M_decide_244 : decode b_M_decide 244 = .ok (.iconst 0, 1) := by decide +kernel
theorem d_M_decide_245 : decode b_M_decide 245 = .ok (.bipush 100, 2) := by decide +kernel
theorem d_M_decide_247 : decode b_M_decide 247 = .ok (.bipush 10, 2) := by decide +kernel
theorem d_M_decide_249 : decode b_M_decide 249 = .ok (.iload_n 1, 1) := by decide +kernel
theorem d_M_decide_250 : decode b_M_decide 250 = .ok (.imul, 1) := by decide +kernel
theorem d_M_decide_251 : decode b_M_decide 251 = .ok (.iadd, 1) := by decide +kernel
theorem d_M_decide_252 : decode b_M_decide 252 = .ok (.iload_n 2, 1) := by decide +kernel
theorem d_M_decide_253 : decode b_M_decide 253 = .ok (.iadd, 1) := by decide +kernel
theorem d_M_decide_254 : decode b_M_decide 254 = .ok (.invokevirtual 142, 3) := by decide +kernel
theorem d_M_decide_257 : decode b_M_decide 257 = .ok (.ifCond .eq 10, 3) := by decide +kernel
theorem d_M_decide_260 : decode b_M_decide 260 = .ok (.aload_n 0, 1) := by decide +kernel
theorem d_M_decide_261 : decode b_M_decide 261 = .ok (.iconst 1, 1) := by decide +kernel
theorem d_M_decide_262 : decode b_M_decide 262 = .ok (.iconst 5, 1) := by decide +kernel
theorem d_M_decide_263 : decode b_M_decide 263 = .ok (.invokevirtual 146, 3) := by decide +kernel
theorem d_M_decide_266 : decode b_M_decide 266 = .ok (.ireturn, 1) := by decide +kernel
theorem d_M_decide_267 : decode b_M_decide 267 = .ok (.iload 9, 2) := by decide +kernel
theorem d_M_decide_269 : decode b_M_decide 269 = .ok (.ifCond .ne 20, 3) := by decide +kernel
theorem d_M_decide_272 : decode b_M_decide 272 = .ok (.iload 8, 2) := by decide +kernel
theorem d_M_decide_274 : decode b_M_decide 274 = .ok (.ifCond .ne 8, 3) := by decide +kernel
theorem d_M_decide_277 : decode b_M_decide 277 = .ok (.iload 10, 2) := by decide +kernel
theorem d_M_decide_279 : decode b_M_decide 279 = .ok (.ifCond .ne 10, 3) := by decide +kernel
theorem d_M_decide_282 : decode b_M_decide 282 = .ok (.aload_n 0, 1) := by decide +kernel
theorem d_M_decide_283 : decode b_M_decide 283 = .ok (.iconst 0, 1) := by decide +kernel
theorem d_M_decide_284 : decode b_M_decide 284 = .ok (.iconst 4, 1) := by decide +kernel
theorem d_M_decide_285 : decode b_M_decide 285 = .ok (.invokevirtual 146, 3) := by decide +kernel
theorem d_M_decide_288 : decode b_M_decide 288 = .ok (.ireturn, 1) := by decide +kernel
theorem d_M_decide_289 : decode b_M_decide 289 = .ok (.iload 8, 2) := by decide +kernel
theorem d_M_decide_291 : decode b_M_decide 291 = .ok (.ifCond .eq 15, 3) := by decide +kernel
theorem d_M_decide_294 : decode b_M_decide 294 = .ok (.iload 10, 2) := by decide +kernel
theorem d_M_decide_296 : decode b_M_decide 296 = .ok (.ifCond .ne 10, 3) := by decide +kernel
theorem d_M_decide_299 : decode b_M_decide 299 = .ok (.aload_n 0, 1) := by decide +kernel
theorem d_M_decide_300 : decode b_M_decide 300 = .ok (.iconst 0, 1) := by decide +kernel
theorem d_M_decide_301 : decode b_M_decide 301 = .ok (.iconst 5, 1) := by decide +kernel
theorem d_M_decide_302 : decode b_M_decide 302 = .ok (.invokevirtual 146, 3) := by decide +kernel
theorem d_M_decide_305 : decode b_M_decide 305 = .ok (.ireturn, 1) := by decide +kernel
theorem d_M_decide_306 : decode b_M_decide 306 = .ok (.aload_n 0, 1) := by decide +kernel
theorem d_M_decide_307 : decode b_M_decide 307 = .ok (.getfield 46, 3) := by decide +kernel
theorem d_M_decide_310 : decode b_M_decide 310 = .ok (.iconst 2, 1) := by decide +kernel
theorem d_M_decide_311 : decode b_M_decide 311 = .ok (.baload, 1) := by decide +kernel
theorem d_M_decide_312 : decode b_M_decide 312 = .ok (.ifCond .eq 20, 3) := by decide +kernel
theorem d_M_decide_315 : decode b_M_decide 315 = .ok (.aload_n 0, 1) := by decide +kernel
theorem d_M_decide_316 : decode b_M_decide 316 = .ok (.iconst 2, 1) := by decide +kernel
theorem d_M_decide_317 : decode b_M_decide 317 = .ok (.iconst 0, 1) := by decide +kernel
theorem d_M_decide_318 : decode b_M_decide 318 = .ok (.iconst (-1), 1) := by decide +kernel
theorem d_M_decide_319 : decode b_M_decide 319 = .ok (.invokevirtual 142, 3) := by decide +kernel
theorem d_M_decide_322 : decode b_M_decide 322 = .ok (.ifCond .ne 10, 3) := by decide +kernel
theorem d_M_decide_325 : decode b_M_decide 325 = .ok (.aload_n 0, 1) := by decide +kernel
theorem d_M_decide_326 : decode b_M_decide 326 = .ok (.iconst 0, 1) := by decide +kernel
theorem d_M_decide_327 : decode b_M_decide 327 = .ok (.iconst 2, 1) := by decide +kernel
theorem d_M_decide_328 : decode b_M_decide 328 = .ok (.invokevirtual 146, 3) := by decide +kernel
theorem d_M_decide_331 : decode b_M_decide 331 = .ok (.ireturn, 1) := by decide +kernel
theorem d_M_decide_332 : decode b_M_decide 332 = .ok (.aload_n 0, 1) := by decide +kernel
theorem d_M_decide_333 : decode b_M_decide 333 = .ok (.getfield 46, 3) := by decide +kernel
theorem d_M_decide_336 : decode b_M_decide 336 = .ok (.iconst 3, 1) := by decide +kernel
theorem d_M_decide_337 : decode b_M_decide 337 = .ok (.baload, 1) := by decide +kernel
theorem d_M_decide_338 : decode b_M_decide 338 = .ok (.ifCond .eq 20, 3) := by decide +kernel
theorem d_M_decide_341 : decode b_M_decide 341 = .ok (.aload_n 0, 1) := by decide +kernel
theorem d_M_decide_342 : decode b_M_decide 342 = .ok (.iconst 3, 1) := by decide +kernel
theorem d_M_decide_343 : decode b_M_decide 343 = .ok (.iconst 0, 1) := by decide +kernel
theorem d_M_decide_344 : decode b_M_decide 344 = .ok (.iconst (-1), 1) := by decide +kernel
theorem d_M_decide_345 : decode b_M_decide 345 = .ok (.invokevirtual 142, 3) := by decide +kernel
theorem d_M_decide_348 : decode b_M_decide 348 = .ok (.ifCond .ne 10, 3) := by decide +kernel
theorem d_M_decide_351 : decode b_M_decide 351 = .ok (.aload_n 0, 1) := by decide +kernel
theorem d_M_decide_352 : decode b_M_decide 352 = .ok (.iconst 0, 1) := by decide +kernel
theorem d_M_decide_353 : decode b_M_decide 353 = .ok (.iconst 3, 1) := by decide +kernel
theorem d_M_decide_354 : decode b_M_decide 354 = .ok (.invokevirtual 146, 3) := by decide +kernel
theorem d_M_decide_357 : decode b_M_decide 357 = .ok (.ireturn, 1) := by decide +kernel
theorem d_M_decide_358 : decode b_M_decide 358 = .ok (.aload_n 0, 1) := by decide +kernel
theorem d_M_decide_359 : decode b_M_decide 359 = .ok (.iconst 1, 1) := by decide +kernel
theorem d_M_decide_360 : decode b_M_decide 360 = .ok (.iload 9, 2) := by decide +kernel
theorem d_M_decide_362 : decode b_M_decide 362 = .ok (.ifCond .eq 7, 3) := by decide +kernel
theorem d_M_decide_365 : decode b_M_decide 365 = .ok (.iconst 4, 1) := by decide +kernel
theorem d_M_decide_366 : decode b_M_decide 366 = .ok (.goto 4, 3) := by decide +kernel
theorem d_M_decide_369 : decode b_M_decide 369 = .ok (.iconst 5, 1) := by decide +kernel
theorem d_M_decide_370 : decode b_M_decide 370 = .ok (.invokevirtual 146, 3) := by decide +kernel
theorem d_M_decide_373 : decode b_M_decide 373 = .ok (.ireturn, 1) := by decide +kernel
theorem d_M_discard_0 : decode b_M_discard 0 = .ok (.aload_n 0, 1) := by decide +kernel
theorem d_M_discard_1 : decode b_M_discard 1 = .ok (.getfield 103, 3) := by decide +kernel
theorem d_M_discard_4 : decode b_M_discard 4 = .ok (.ifCond .ne 5, 3) := by decide +kernel
theorem d_M_discard_7 : decode b_M_discard 7 = .ok (.iconst 0, 1) := by decide +kernel
theorem d_M_discard_8 : decode b_M_discard 8 = .ok (.ireturn, 1) := by decide +kernel
theorem d_M_discard_9 : decode b_M_discard 9 = .ok (.aload_n 0, 1) := by decide +kernel
theorem d_M_discard_10 : decode b_M_discard 10 = .ok (.dup, 1) := by decide +kernel
theorem d_M_discard_11 : decode b_M_discard 11 = .ok (.getfield 103, 3) := by decide +kernel
theorem d_M_discard_14 : decode b_M_discard 14 = .ok (.iconst 1, 1) := by decide +kernel
theorem d_M_discard_15 : decode b_M_discard 15 = .ok (.isub, 1) := by decide +kernel
theorem d_M_discard_16 : decode b_M_discard 16 = .ok (.putfield 103, 3) := by decide +kernel
theorem d_M_discard_19 : decode b_M_discard 19 = .ok (.iconst 1, 1) := by decide +kernel
theorem d_M_discard_20 : decode b_M_discard 20 = .ok (.ireturn, 1) := by decide +kernel
theorem d_M_does_0 : decode b_M_does 0 = .ok (.aload_n 0, 1) := by decide +kernel
theorem d_M_does_1 : decode b_M_does 1 = .ok (.aload_n 0, 1) := by decide +kernel
theorem d_M_does_2 : decode b_M_does 2 = .ok (.getfield 55, 3) := by decide +kernel
theorem d_M_does_5 : decode b_M_does 5 = .ok (.iload_n 1, 1) := by decide +kernel
theorem d_M_does_6 : decode b_M_does 6 = .ok (.laload, 1) := by decide +kernel
theorem d_M_does_7 : decode b_M_does 7 = .ok (.lload 4, 2) := by decide +kernel
theorem d_M_does_9 : decode b_M_does 9 = .ok (.iconst 1, 1) := by decide +kernel
theorem d_M_does_10 : decode b_M_does 10 = .ok (.invokevirtual 120, 3) := by decide +kernel
theorem d_M_does_13 : decode b_M_does 13 = .ok (.aload_n 0, 1) := by decide +kernel
theorem d_M_does_14 : decode b_M_does 14 = .ok (.getfield 52, 3) := by decide +kernel
theorem d_M_does_17 : decode b_M_does 17 = .ok (.iload_n 1, 1) := by decide +kernel
theorem d_M_does_18 : decode b_M_does 18 = .ok (.iaload, 1) := by decide +kernel
theorem d_M_does_19 : decode b_M_does 19 = .ok (.iconst 2, 1) := by decide +kernel
theorem d_M_does_20 : decode b_M_does 20 = .ok (.iand, 1) := by decide +kernel
theorem d_M_does_21 : decode b_M_does 21 = .ok (.ifCond .eq 7, 3) := by decide +kernel
theorem d_M_does_24 : decode b_M_does 24 = .ok (.iconst 1, 1) := by decide +kernel
theorem d_M_does_25 : decode b_M_does 25 = .ok (.goto 4, 3) := by decide +kernel
theorem d_M_does_28 : decode b_M_does 28 = .ok (.iconst 0, 1) := by decide +kernel
theorem d_M_does_29 : decode b_M_does 29 = .ok (.if_icmp .eq 7, 3) := by decide +kernel
theorem d_M_does_32 : decode b_M_does 32 = .ok (.iconst 1, 1) := by decide +kernel
theorem d_M_does_33 : decode b_M_does 33 = .ok (.goto 4, 3) := by decide +kernel
theorem d_M_does_36 : decode b_M_does 36 = .ok (.iconst 0, 1) := by decide +kernel
theorem d_M_does_37 : decode b_M_does 37 = .ok (.istore 8, 2) := by decide +kernel
theorem d_M_does_39 : decode b_M_does 39 = .ok (.aload_n 0, 1) := by decide +kernel
theorem d_M_does_40 : decode b_M_does 40 = .ok (.aload_n 0, 1) := by decide +kernel
theorem d_M_does_41 : decode b_M_does 41 = .ok (.getfield 58, 3) := by decide +kernel
theorem d_M_does_44 : decode b_M_does 44 = .ok (.iload_n 1, 1) := by decide +kernel
theorem d_M_does_45 : decode b_M_does 45 = .ok (.laload, 1) := by decide +kernel
theorem d_M_does_46 : decode b_M_does 46 = .ok (.lload 6, 2) := by decide +kernel
theorem d_M_does_48 : decode b_M_does 48 = .ok (.iconst 0, 1) := by decide +kernel
theorem d_M_does_49 : decode b_M_does 49 = .ok (.invokevirtual 120, 3) := by decide +kernel
theorem d_M_does_52 : decode b_M_does 52 = .ok (.aload_n 0, 1) := by decide +kernel
theorem d_M_does_53 : decode b_M_does 53 = .ok (.getfield 52, 3) := by decide +kernel
theorem d_M_does_56 : decode b_M_does 56 = .ok (.iload_n 1, 1) := by decide +kernel
theorem d_M_does_57 : decode b_M_does 57 = .ok (.iaload, 1) := by decide +kernel
theorem d_M_does_58 : decode b_M_does 58 = .ok (.iconst 4, 1) := by decide +kernel
theorem d_M_does_59 : decode b_M_does 59 = .ok (.iand, 1) := by decide +kernel
theorem d_M_does_60 : decode b_M_does 60 = .ok (.ifCond .eq 7, 3) := by decide +kernel
theorem d_M_does_63 : decode b_M_does 63 = .ok (.iconst 1, 1) := by decide +kernel
theorem d_M_does_64 : decode b_M_does 64 = .ok (.goto 4, 3) := by decide +kernel
theorem d_M_does_67 : decode b_M_does 67 = .ok (.iconst 0, 1) := by decide +kernel
theorem d_M_does_68 : decode b_M_does 68 = .ok (.if_icmp .eq 7, 3) := by decide +kernel
theorem d_M_does_71 : decode b_M_does 71 = .ok (.iconst 1, 1) := by decide +kernel
theorem d_M_does_72 : decode b_M_does 72 = .ok (.goto 4, 3) := by decide +kernel
theorem d_M_does_75 : decode b_M_does 75 = .ok (.iconst 0, 1) := by decide +kernel
theorem d_M_does_76 : decode b_M_does 76 = .ok (.istore 9, 2) := by decide +kernel
theorem d_M_does_78 : decode b_M_does 78 = .ok (.aload_n 0, 1) := by decide +kernel
theorem d_M_does_79 : decode b_M_does 79 = .ok (.getfield 61, 3) := by decide +kernel
theorem d_M_does_82 : decode b_M_does 82 = .ok (.iload_n 1, 1) := by decide +kernel
theorem d_M_does_83 : decode b_M_does 83 = .ok (.iaload, 1) := by decide +kernel
theorem d_M_does_84 : decode b_M_does 84 = .ok (.iconst (-1), 1) := by decide +kernel
theorem d_M_does_85 : decode b_M_does 85 = .ok (.if_icmp .eq 31, 3) := by decide +kernel
theorem d_M_does_88 : decode b_M_does 88 = .ok (.aload_n 0, 1) := by decide +kernel
theorem d_M_does_89 : decode b_M_does 89 = .ok (.getfield 61, 3) := by decide +kernel
theorem d_M_does_92 : decode b_M_does 92 = .ok (.iload_n 1, 1) := by decide +kernel
theorem d_M_does_93 : decode b_M_does 93 = .ok (.iaload, 1) := by decide +kernel
theorem d_M_does_94 : decode b_M_does 94 = .ok (.iload_n 2, 1) := by decide +kernel
theorem d_M_does_95 : decode b_M_does 95 = .ok (.if_icmp .eq 21, 3) := by decide +kernel
theorem d_M_does_98 : decode b_M_does 98 = .ok (.aload_n 0, 1) := by decide +kernel
theorem d_M_does_99 : decode b_M_does 99 = .ok (.getfield 61, 3) := by decide +kernel
theorem d_M_does_102 : decode b_M_does 102 = .ok (.iload_n 1, 1) := by decide +kernel
theorem d_M_does_103 : decode b_M_does 103 = .ok (.iaload, 1) := by decide +kernel
theorem d_M_does_104 : decode b_M_does 104 = .ok (.bipush 100, 2) := by decide +kernel
theorem d_M_does_106 : decode b_M_does 106 = .ok (.bipush 10, 2) := by decide +kernel
theorem d_M_does_108 : decode b_M_does 108 = .ok (.iload_n 2, 1) := by decide +kernel
theorem d_M_does_109 : decode b_M_does 109 = .ok (.imul, 1) := by decide +kernel
theorem d_M_does_110 : decode b_M_does 110 = .ok (.iadd, 1) := by decide +kernel
theorem d_M_does_111 : decode b_M_does 111 = .ok (.iload_n 3, 1) := by decide +kernel
theorem d_M_does_112 : decode b_M_does 112 = .ok (.iadd, 1) := by decide +kernel
theorem d_M_does_113 : decode b_M_does 113 = .ok (.if_icmp .ne 7, 3) := by decide +kernel
theorem d_M_does_116 : decode b_M_does 116 = .ok (.iconst 1, 1) := by decide +kernel
theorem d_M_does_117 : decode b_M_does 117 = .ok (.goto 4, 3) := by decide +kernel
theorem d_M_does_120 : decode b_M_does 120 = .ok (.iconst 0, 1) := by decide +kernel
theorem d_M_does_121 : decode b_M_does 121 = .ok (.istore 10, 2) := by decide +kernel
theorem d_M_does_123 : decode b_M_does 123 = .ok (.iload 8, 2) := by decide +kernel
theorem d_M_does_125 : decode b_M_does 125 = .ok (.ifCond .eq 40, 3) := by decide +kernel
theorem d_M_does_128 : decode b_M_does 128 = .ok (.iload 9, 2) := by decide +kernel
theorem d_M_does_130 : decode b_M_does 130 = .ok (.ifCond .eq 35, 3) := by decide +kernel
theorem d_M_does_133 : decode b_M_does 133 = .ok (.iload 10, 2) := by decide +kernel
theorem d_M_does_135 : decode b_M_does 135 = .ok (.ifCond .eq 30, 3) := by decide +kernel
theorem d_M_does_138 : decode b_M_does 138 = .ok (.aload_n 0, 1) := by decide +kernel
theorem d_M_does_139 : decode b_M_does 139 = .ok (.getfield 64, 3) := by decide +kernel
theorem d_M_does_142 : decode b_M_does 142 = .ok (.iload_n 1, 1) := by decide +kernel
theorem d_M_does_143 : decode b_M_does 143 = .ok (.iaload, 1) := by decide +kernel
theorem d_M_does_144 : decode b_M_does 144 = .ok (.ifCond .lt 17, 3) := by decide +kernel
theorem d_M_does_147 : decode b_M_does 147 = .ok (.aload_n 0, 1) := by decide +kernel
theorem d_M_does_148 : decode b_M_does 148 = .ok (.getfield 39, 3) := by decide +kernel
theorem d_M_does_151 : decode b_M_does 151 = .ok (.aload_n 0, 1) := by decide +kernel
theorem d_M_does_152 : decode b_M_does 152 = .ok (.getfield 64, 3) := by decide +kernel
theorem d_M_does_155 : decode b_M_does 155 = .ok (.iload_n 1, 1) := by decide +kernel
theorem d_M_does_156 : decode b_M_does 156 = .ok (.iaload, 1) := by decide +kernel
theorem d_M_does_157 : decode b_M_does 157 = .ok (.baload, 1) := by decide +kernel
theorem d_M_does_158 : decode b_M_does 158 = .ok (.ifCond .eq 7, 3) := by decide +kernel
theorem d_M_does_161 : decode b_M_does 161 = .ok (.iconst 1, 1) := by decide +kernel
theorem d_M_does_162 : decode b_M_does 162 = .ok (.goto 4, 3) := by decide +kernel
theorem d_M_does_165 : decode b_M_does 165 = .ok (.iconst 0, 1) := by decide +kernel
theorem d_M_does_166 : decode b_M_does 166 = .ok (.ireturn, 1) := by decide +kernel
theorem d_M_drop_0 : decode b_M_drop 0 = .ok (.iload_n 1, 1) := by decide +kernel
theorem d_M_drop_1 : decode b_M_drop 1 = .ok (.iconst 5, 1) := by decide +kernel
theorem d_M_drop_2 : decode b_M_drop 2 = .ok (.invokestatic 106, 3) := by decide +kernel
theorem d_M_drop_5 : decode b_M_drop 5 = .ok (.ifCond .eq 12, 3) := by decide +kernel
theorem d_M_drop_8 : decode b_M_drop 8 = .ok (.aload_n 0, 1) := by decide +kernel
theorem d_M_drop_9 : decode b_M_drop 9 = .ok (.getfield 46, 3) := by decide +kernel
theorem d_M_drop_12 : decode b_M_drop 12 = .ok (.iload_n 1, 1) := by decide +kernel
theorem d_M_drop_13 : decode b_M_drop 13 = .ok (.baload, 1) := by decide +kernel
theorem d_M_drop_14 : decode b_M_drop 14 = .ok (.ifCond .ne 5, 3) := by decide +kernel
theorem d_M_drop_17 : decode b_M_drop 17 = .ok (.iconst 0, 1) := by decide +kernel
theorem d_M_drop_18 : decode b_M_drop 18 = .ok (.ireturn, 1) := by decide +kernel
theorem d_M_drop_19 : decode b_M_drop 19 = .ok (.aload_n 0, 1) := by decide +kernel
theorem d_M_drop_20 : decode b_M_drop 20 = .ok (.getfield 46, 3) := by decide +kernel
theorem d_M_drop_23 : decode b_M_drop 23 = .ok (.iload_n 1, 1) := by decide +kernel
theorem d_M_drop_24 : decode b_M_drop 24 = .ok (.iconst 0, 1) := by decide +kernel
theorem d_M_drop_25 : decode b_M_drop 25 = .ok (.bastore, 1) := by decide +kernel
theorem d_M_drop_26 : decode b_M_drop 26 = .ok (.aload_n 0, 1) := by decide +kernel
theorem d_M_drop_27 : decode b_M_drop 27 = .ok (.getfield 49, 3) := by decide +kernel
theorem d_M_drop_30 : decode b_M_drop 30 = .ok (.iload_n 1, 1) := by decide +kernel
theorem d_M_drop_31 : decode b_M_drop 31 = .ok (.iconst 0, 1) := by decide +kernel
theorem d_M_drop_32 : decode b_M_drop 32 = .ok (.iastore, 1) := by decide +kernel
theorem d_M_drop_33 : decode b_M_drop 33 = .ok (.iconst 1, 1) := by decide +kernel
theorem d_M_drop_34 : decode b_M_drop 34 = .ok (.ireturn, 1) := by decide +kernel
theorem d_M_fold_0 : decode b_M_fold 0 = .ok (.iload_n 1, 1) := by decide +kernel
theorem d_M_fold_1 : decode b_M_fold 1 = .ok (.ifCond .eq 22, 3) := by decide +kernel
theorem d_M_fold_4 : decode b_M_fold 4 = .ok (.iload_n 0, 1) := by decide +kernel
theorem d_M_fold_5 : decode b_M_fold 5 = .ok (.bipush 65, 2) := by decide +kernel
theorem d_M_fold_7 : decode b_M_fold 7 = .ok (.if_icmp .lt 16, 3) := by decide +kernel
theorem d_M_fold_10 : decode b_M_fold 10 = .ok (.iload_n 0, 1) := by decide +kernel
theorem d_M_fold_11 : decode b_M_fold 11 = .ok (.bipush 90, 2) := by decide +kernel
theorem d_M_fold_13 : decode b_M_fold 13 = .ok (.if_icmp .gt 10, 3) := by decide +kernel
theorem d_M_fold_16 : decode b_M_fold 16 = .ok (.iload_n 0, 1) := by decide +kernel
theorem d_M_fold_17 : decode b_M_fold 17 = .ok (.bipush 32, 2) := by decide +kernel
theorem d_M_fold_19 : decode b_M_fold 19 = .ok (.iadd, 1) := by decide +kernel
theorem d_M_fold_20 : decode b_M_fold 20 = .ok (.goto 4, 3) := by decide +kernel
theorem d_M_fold_23 : decode b_M_fold 23 = .ok (.iload_n 0, 1) := by decide +kernel
theorem d_M_fold_24 : decode b_M_fold 24 = .ok (.ireturn, 1) := by decide +kernel
theorem d_M_forget_0 : decode b_M_forget 0 = .ok (.iload_n 1, 1) := by decide +kernel
theorem d_M_forget_1 : decode b_M_forget 1 = .ok (.bipush 7, 2) := by decide +kernel
theorem d_M_forget_3 : decode b_M_forget 3 = .ok (.invokestatic 106, 3) := by decide +kernel
theorem d_M_forget_6 : decode b_M_forget 6 = .ok (.ifCond .ne 6, 3) := by decide +kernel
theorem d_M_forget_9 : decode b_M_forget 9 = .ok (.bipush (-2), 2) := by decide +kernel
theorem d_M_forget_11 : decode b_M_forget 11 = .ok (.ireturn, 1) := by decide +kernel
theorem d_M_forget_12 : decode b_M_forget 12 = .ok (.aload_n 0, 1) := by decide +kernel
theorem d_M_forget_13 : decode b_M_forget 13 = .ok (.getfield 7, 3) := by decide +kernel
theorem d_M_forget_16 : decode b_M_forget 16 = .ok (.iload_n 1, 1) := by decide +kernel
theorem d_M_forget_17 : decode b_M_forget 17 = .ok (.iaload, 1) := by decide +kernel
theorem d_M_forget_18 : decode b_M_forget 18 = .ok (.istore_n 2, 1) := by decide +kernel
theorem d_M_forget_19 : decode b_M_forget 19 = .ok (.aload_n 0, 1) := by decide +kernel
theorem d_M_forget_20 : decode b_M_forget 20 = .ok (.getfield 7, 3) := by decide +kernel
theorem d_M_forget_23 : decode b_M_forget 23 = .ok (.iload_n 1, 1) := by decide +kernel
theorem d_M_forget_24 : decode b_M_forget 24 = .ok (.iconst 0, 1) := by decide +kernel
theorem d_M_forget_25 : decode b_M_forget 25 = .ok (.iastore, 1) := by decide +kernel
theorem d_M_forget_26 : decode b_M_forget 26 = .ok (.iload_n 2, 1) := by decide +kernel
theorem d_M_forget_27 : decode b_M_forget 27 = .ok (.ireturn, 1) := by decide +kernel
theorem d_M_holds_0 : decode b_M_holds 0 = .ok (.iload_n 1, 1) := by decide +kernel
theorem d_M_holds_1 : decode b_M_holds 1 = .ok (.ifCond .lt 11, 3) := by decide +kernel
theorem d_M_holds_4 : decode b_M_holds 4 = .ok (.iload_n 1, 1) := by decide +kernel
theorem d_M_holds_5 : decode b_M_holds 5 = .ok (.aload_n 0, 1) := by decide +kernel
theorem d_M_holds_6 : decode b_M_holds 6 = .ok (.getfield 103, 3) := by decide +kernel
theorem d_M_holds_9 : decode b_M_holds 9 = .ok (.if_icmp .lt 5, 3) := by decide +kernel
theorem d_M_holds_12 : decode b_M_holds 12 = .ok (.iconst 0, 1) := by decide +kernel
theorem d_M_holds_13 : decode b_M_holds 13 = .ok (.ireturn, 1) := by decide +kernel
theorem d_M_holds_14 : decode b_M_holds 14 = .ok (.aload_n 0, 1) := by decide +kernel
theorem d_M_holds_15 : decode b_M_holds 15 = .ok (.invokevirtual 135, 3) := by decide +kernel
theorem d_M_holds_18 : decode b_M_holds 18 = .ok (.aload_n 0, 1) := by decide +kernel
theorem d_M_holds_19 : decode b_M_holds 19 = .ok (.getfield 39, 3) := by decide +kernel
theorem d_M_holds_22 : decode b_M_holds 22 = .ok (.aload_n 0, 1) := by decide +kernel
theorem d_M_holds_23 : decode b_M_holds 23 = .ok (.getfield 43, 3) := by decide +kernel
theorem d_M_holds_26 : decode b_M_holds 26 = .ok (.iload_n 1, 1) := by decide +kernel
theorem d_M_holds_27 : decode b_M_holds 27 = .ok (.iaload, 1) := by decide +kernel
theorem d_M_holds_28 : decode b_M_holds 28 = .ok (.baload, 1) := by decide +kernel
theorem d_M_holds_29 : decode b_M_holds 29 = .ok (.ireturn, 1) := by decide +kernel
theorem d_M_init_0 : decode b_M_init 0 = .ok (.aload_n 0, 1) := by decide +kernel
theorem d_M_init_1 : decode b_M_init 1 = .ok (.invokespecial 1, 3) := by decide +kernel
theorem d_M_init_4 : decode b_M_init 4 = .ok (.aload_n 0, 1) := by decide +kernel
theorem d_M_init_5 : decode b_M_init 5 = .ok (.bipush 8, 2) := by decide +kernel
theorem d_M_init_7 : decode b_M_init 7 = .ok (.newarray .int, 2) := by decide +kernel
theorem d_M_init_9 : decode b_M_init 9 = .ok (.putfield 7, 3) := by decide +kernel
theorem d_M_init_12 : decode b_M_init 12 = .ok (.aload_n 0, 1) := by decide +kernel
theorem d_M_init_13 : decode b_M_init 13 = .ok (.bipush 32, 2) := by decide +kernel
theorem d_M_init_15 : decode b_M_init 15 = .ok (.newarray .long, 2) := by decide +kernel
theorem d_M_init_17 : decode b_M_init 17 = .ok (.putfield 13, 3) := by decide +kernel
theorem d_M_init_20 : decode b_M_init 20 = .ok (.aload_n 0, 1) := by decide +kernel
theorem d_M_init_21 : decode b_M_init 21 = .ok (.sipush 520, 3) := by decide +kernel
theorem d_M_init_24 : decode b_M_init 24 = .ok (.newarray .byte, 2) := by decide +kernel
theorem d_M_init_26 : decode b_M_init 26 = .ok (.putfield 17, 3) := by decide +kernel
theorem d_M_init_29 : decode b_M_init 29 = .ok (.aload_n 0, 1) := by decide +kernel
theorem d_M_init_30 : decode b_M_init 30 = .ok (.sipush 520, 3) := by decide +kernel
theorem d_M_init_33 : decode b_M_init 33 = .ok (.newarray .byte, 2) := by decide +kernel
theorem d_M_init_35 : decode b_M_init 35 = .ok (.putfield 21, 3) := by decide +kernel
theorem d_M_init_38 : decode b_M_init 38 = .ok (.aload_n 0, 1) := by decide +kernel
theorem d_M_init_39 : decode b_M_init 39 = .ok (.sipush 520, 3) := by decide +kernel
theorem d_M_init_42 : decode b_M_init 42 = .ok (.newarray .byte, 2) := by decide +kernel
theorem d_M_init_44 : decode b_M_init 44 = .ok (.putfield 24, 3) := by decide +kernel
theorem d_M_init_47 : decode b_M_init 47 = .ok (.aload_n 0, 1) := by decide +kernel
theorem d_M_init_48 : decode b_M_init 48 = .ok (.sipush 520, 3) := by decide +kernel
theorem d_M_init_51 : decode b_M_init 51 = .ok (.newarray .byte, 2) := by decide +kernel
theorem d_M_init_53 : decode b_M_init 53 = .ok (.putfield 27, 3) := by decide +kernel
theorem d_M_init_56 : decode b_M_init 56 = .ok (.aload_n 0, 1) := by decide +kernel
theorem d_M_init_57 : decode b_M_init 57 = .ok (.sipush 520, 3) := by decide +kernel
theorem d_M_init_60 : decode b_M_init 60 = .ok (.newarray .byte, 2) := by decide +kernel
theorem d_M_init_62 : decode b_M_init 62 = .ok (.putfield 30, 3) := by decide +kernel
theorem d_M_init_65 : decode b_M_init 65 = .ok (.aload_n 0, 1) := by decide +kernel
theorem d_M_init_66 : decode b_M_init 66 = .ok (.sipush 520, 3) := by decide +kernel
theorem d_M_init_69 : decode b_M_init 69 = .ok (.newarray .long, 2) := by decide +kernel
theorem d_M_init_71 : decode b_M_init 71 = .ok (.putfield 33, 3) := by decide +kernel
theorem d_M_init_74 : decode b_M_init 74 = .ok (.aload_n 0, 1) := by decide +kernel
theorem d_M_init_75 : decode b_M_init 75 = .ok (.sipush 520, 3) := by decide +kernel
theorem d_M_init_78 : decode b_M_init 78 = .ok (.newarray .int, 2) := by decide +kernel
theorem d_M_init_80 : decode b_M_init 80 = .ok (.putfield 36, 3) := by decide +kernel
theorem d_M_init_83 : decode b_M_init 83 = .ok (.aload_n 0, 1) := by decide +kernel
theorem d_M_init_84 : decode b_M_init 84 = .ok (.sipush 520, 3) := by decide +kernel
theorem d_M_init_87 : decode b_M_init 87 = .ok (.newarray .boolean, 2) := by decide +kernel
theorem d_M_init_89 : decode b_M_init 89 = .ok (.putfield 39, 3) := by decide +kernel
theorem d_M_init_92 : decode b_M_init 92 = .ok (.aload_n 0, 1) := by decide +kernel
theorem d_M_init_93 : decode b_M_init 93 = .ok (.bipush 8, 2) := by decide +kernel
theorem d_M_init_95 : decode b_M_init 95 = .ok (.newarray .int, 2) := by decide +kernel
theorem d_M_init_97 : decode b_M_init 97 = .ok (.putfield 43, 3) := by decide +kernel
theorem d_M_init_100 : decode b_M_init 100 = .ok (.aload_n 0, 1) := by decide +kernel
theorem d_M_init_101 : decode b_M_init 101 = .ok (.bipush 6, 2) := by decide +kernel
theorem d_M_init_103 : decode b_M_init 103 = .ok (.newarray .boolean, 2) := by decide +kernel
theorem d_M_init_105 : decode b_M_init 105 = .ok (.putfield 46, 3) := by decide +kernel
theorem d_M_init_108 : decode b_M_init 108 = .ok (.aload_n 0, 1) := by decide +kernel
theorem d_M_init_109 : decode b_M_init 109 = .ok (.bipush 6, 2) := by decide +kernel
theorem d_M_init_111 : decode b_M_init 111 = .ok (.newarray .int, 2) := by decide +kernel
theorem d_M_init_113 : decode b_M_init 113 = .ok (.putfield 49, 3) := by decide +kernel
theorem d_M_init_116 : decode b_M_init 116 = .ok (.aload_n 0, 1) := by decide +kernel
theorem d_M_init_117 : decode b_M_init 117 = .ok (.bipush 36, 2) := by decide +kernel
theorem d_M_init_119 : decode b_M_init 119 = .ok (.newarray .int, 2) := by decide +kernel
theorem d_M_init_121 : decode b_M_init 121 = .ok (.putfield 52, 3) := by decide +kernel
theorem d_M_init_124 : decode b_M_init 124 = .ok (.aload_n 0, 1) := by decide +kernel
theorem d_M_init_125 : decode b_M_init 125 = .ok (.bipush 36, 2) := by decide +kernel
theorem d_M_init_127 : decode b_M_init 127 = .ok (.newarray .long, 2) := by decide +kernel
theorem d_M_init_129 : decode b_M_init 129 = .ok (.putfield 55, 3) := by decide +kernel
theorem d_M_init_132 : decode b_M_init 132 = .ok (.aload_n 0, 1) := by decide +kernel
theorem d_M_init_133 : decode b_M_init 133 = .ok (.bipush 36, 2) := by decide +kernel
theorem d_M_init_135 : decode b_M_init 135 = .ok (.newarray .long, 2) := by decide +kernel
theorem d_M_init_137 : decode b_M_init 137 = .ok (.putfield 58, 3) := by decide +kernel
theorem d_M_init_140 : decode b_M_init 140 = .ok (.aload_n 0, 1) := by decide +kernel
theorem d_M_init_141 : decode b_M_init 141 = .ok (.bipush 36, 2) := by decide +kernel
theorem d_M_init_143 : decode b_M_init 143 = .ok (.newarray .int, 2) := by decide +kernel
theorem d_M_init_145 : decode b_M_init 145 = .ok (.putfield 61, 3) := by decide +kernel
theorem d_M_init_148 : decode b_M_init 148 = .ok (.aload_n 0, 1) := by decide +kernel
theorem d_M_init_149 : decode b_M_init 149 = .ok (.bipush 36, 2) := by decide +kernel
theorem d_M_init_151 : decode b_M_init 151 = .ok (.newarray .int, 2) := by decide +kernel
theorem d_M_init_153 : decode b_M_init 153 = .ok (.putfield 64, 3) := by decide +kernel
theorem d_M_init_156 : decode b_M_init 156 = .ok (.aload_n 0, 1) := by decide +kernel
theorem d_M_init_157 : decode b_M_init 157 = .ok (.iconst (-1), 1) := by decide +kernel
theorem d_M_init_158 : decode b_M_init 158 = .ok (.putfield 67, 3) := by decide +kernel
theorem d_M_init_161 : decode b_M_init 161 = .ok (.aload_n 0, 1) := by decide +kernel
theorem d_M_init_162 : decode b_M_init 162 = .ok (.bipush 6, 2) := by decide +kernel
theorem d_M_init_164 : decode b_M_init 164 = .ok (.newarray .int, 2) := by decide +kernel
theorem d_M_init_166 : decode b_M_init 166 = .ok (.putfield 71, 3) := by decide +kernel
theorem d_M_init_169 : decode b_M_init 169 = .ok (.aload_n 0, 1) := by decide +kernel
theorem d_M_init_170 : decode b_M_init 170 = .ok (.bipush 40, 2) := by decide +kernel
theorem d_M_init_172 : decode b_M_init 172 = .ok (.newarray .int, 2) := by decide +kernel
theorem d_M_init_174 : decode b_M_init 174 = .ok (.putfield 74, 3) := by decide +kernel
theorem d_M_init_177 : decode b_M_init 177 = .ok (.return_, 1) := by decide +kernel
theorem d_M_join_0 : decode b_M_join 0 = .ok (.iload_n 1, 1) := by decide +kernel
theorem d_M_join_1 : decode b_M_join 1 = .ok (.iconst 2, 1) := by decide +kernel
theorem d_M_join_2 : decode b_M_join 2 = .ok (.invokestatic 106, 3) := by decide +kernel
theorem d_M_join_5 : decode b_M_join 5 = .ok (.ifCond .eq 30, 3) := by decide +kernel
theorem d_M_join_8 : decode b_M_join 8 = .ok (.iload_n 2, 1) := by decide +kernel
theorem d_M_join_9 : decode b_M_join 9 = .ok (.bipush 8, 2) := by decide +kernel
theorem d_M_join_11 : decode b_M_join 11 = .ok (.invokestatic 106, 3) := by decide +kernel
theorem d_M_join_14 : decode b_M_join 14 = .ok (.ifCond .eq 21, 3) := by decide +kernel
theorem d_M_join_17 : decode b_M_join 17 = .ok (.iload_n 1, 1) := by decide +kernel
theorem d_M_join_18 : decode b_M_join 18 = .ok (.iconst 2, 1) := by decide +kernel
theorem d_M_join_19 : decode b_M_join 19 = .ok (.if_icmp .ne 8, 3) := by decide +kernel
theorem d_M_join_22 : decode b_M_join 22 = .ok (.iload_n 2, 1) := by decide +kernel
theorem d_M_join_23 : decode b_M_join 23 = .ok (.iconst 1, 1) := by decide +kernel
theorem d_M_join_24 : decode b_M_join 24 = .ok (.if_icmp .ne 11, 3) := by decide +kernel
theorem d_M_join_27 : decode b_M_join 27 = .ok (.iload_n 2, 1) := by decide +kernel
theorem d_M_join_28 : decode b_M_join 28 = .ok (.aload_n 0, 1) := by decide +kernel
theorem d_M_join_29 : decode b_M_join 29 = .ok (.getfield 103, 3) := by decide +kernel
theorem d_M_join_32 : decode b_M_join 32 = .ok (.if_icmp .le 6, 3) := by decide +kernel
theorem d_M_join_35 : decode b_M_join 35 = .ok (.bipush (-2), 2) := by decide +kernel
theorem d_M_join_37 : decode b_M_join 37 = .ok (.ireturn, 1) := by decide +kernel
theorem d_M_join_38 : decode b_M_join 38 = .ok (.iload_n 2, 1) := by decide +kernel
theorem d_M_join_39 : decode b_M_join 39 = .ok (.ifCond .ne 15, 3) := by decide +kernel
theorem d_M_join_42 : decode b_M_join 42 = .ok (.aload_n 0, 1) := by decide +kernel
theorem d_M_join_43 : decode b_M_join 43 = .ok (.getfield 103, 3) := by decide +kernel
theorem d_M_join_46 : decode b_M_join 46 = .ok (.bipush 8, 2) := by decide +kernel
theorem d_M_join_48 : decode b_M_join 48 = .ok (.if_icmp .ne 6, 3) := by decide +kernel
theorem d_M_join_51 : decode b_M_join 51 = .ok (.bipush (-3), 2) := by decide +kernel
theorem d_M_join_53 : decode b_M_join 53 = .ok (.ireturn, 1) := by decide +kernel
theorem d_M_join_54 : decode b_M_join 54 = .ok (.iconst 0, 1) := by decide +kernel
theorem d_M_join_55 : decode b_M_join 55 = .ok (.istore_n 3, 1) := by decide +kernel
theorem d_M_join_56 : decode b_M_join 56 = .ok (.aload_n 0, 1) := by decide +kernel
theorem d_M_join_57 : decode b_M_join 57 = .ok (.getfield 103, 3) := by decide +kernel
theorem d_M_join_60 : decode b_M_join 60 = .ok (.iload_n 2, 1) := by decide +kernel
theorem d_M_join_61 : decode b_M_join 61 = .ok (.isub, 1) := by decide +kernel
theorem d_M_join_62 : decode b_M_join 62 = .ok (.istore 4, 2) := by decide +kernel
theorem d_M_join_64 : decode b_M_join 64 = .ok (.iload 4, 2) := by decide +kernel
theorem d_M_join_66 : decode b_M_join 66 = .ok (.aload_n 0, 1) := by decide +kernel
theorem d_M_join_67 : decode b_M_join 67 = .ok (.getfield 103, 3) := by decide +kernel
theorem d_M_join_70 : decode b_M_join 70 = .ok (.if_icmp .ge 42, 3) := by decide +kernel
theorem d_M_join_73 : decode b_M_join 73 = .ok (.aload_n 0, 1) := by decide +kernel
theorem d_M_join_74 : decode b_M_join 74 = .ok (.getfield 30, 3) := by decide +kernel
theorem d_M_join_77 : decode b_M_join 77 = .ok (.aload_n 0, 1) := by decide +kernel
theorem d_M_join_78 : decode b_M_join 78 = .ok (.getfield 43, 3) := by decide +kernel
theorem d_M_join_81 : decode b_M_join 81 = .ok (.iload 4, 2) := by decide +kernel
theorem d_M_join_83 : decode b_M_join 83 = .ok (.iaload, 1) := by decide +kernel
theorem d_M_join_84 : decode b_M_join 84 = .ok (.baload, 1) := by decide +kernel
theorem d_M_join_85 : decode b_M_join 85 = .ok (.iload_n 3, 1) := by decide +kernel
theorem d_M_join_86 : decode b_M_join 86 = .ok (.if_icmp .le 18, 3) := by decide +kernel
theorem d_M_join_89 : decode b_M_join 89 = .ok (.aload_n 0, 1) := by decide +kernel
theorem d_M_join_90 : decode b_M_join 90 = .ok (.getfield 30, 3) := by decide +kernel
theorem d_M_join_93 : decode b_M_join 93 = .ok (.aload_n 0, 1) := by decide +kernel
theorem d_M_join_94 : decode b_M_join 94 = .ok (.getfield 43, 3) := by decide +kernel
theorem d_M_join_97 : decode b_M_join 97 = .ok (.iload 4, 2) := by decide +kernel
theorem d_M_join_99 : decode b_M_join 99 = .ok (.iaload, 1) := by decide +kernel
theorem d_M_join_100 : decode b_M_join 100 = .ok (.baload, 1) := by decide +kernel
theorem d_M_join_101 : decode b_M_join 101 = .ok (.goto 4, 3) := by decide +kernel
theorem d_M_join_104 : decode b_M_join 104 = .ok (.iload_n 3, 1) := by decide +kernel
theorem d_M_join_105 : decode b_M_join 105 = .ok (.istore_n 3, 1) := by decide +kernel
theorem d_M_join_106 : decode b_M_join 106 = .ok (.iinc 4 1, 3) := by decide +kernel
theorem d_M_join_109 : decode b_M_join 109 = .ok (.goto (-45), 3) := by decide +kernel
theorem d_M_join_112 : decode b_M_join 112 = .ok (.iload_n 3, 1) := by decide +kernel
theorem d_M_join_113 : decode b_M_join 113 = .ok (.iconst 5, 1) := by decide +kernel
theorem d_M_join_114 : decode b_M_join 114 = .ok (.if_icmp .ne 6, 3) := by decide +kernel
theorem d_M_join_117 : decode b_M_join 117 = .ok (.bipush (-4), 2) := by decide +kernel
theorem d_M_join_119 : decode b_M_join 119 = .ok (.ireturn, 1) := by decide +kernel
theorem d_M_join_120 : decode b_M_join 120 = .ok (.aload_n 0, 1) := by decide +kernel
theorem d_M_join_121 : decode b_M_join 121 = .ok (.getfield 103, 3) := by decide +kernel
theorem d_M_join_124 : decode b_M_join 124 = .ok (.iload_n 2, 1) := by decide +kernel
theorem d_M_join_125 : decode b_M_join 125 = .ok (.isub, 1) := by decide +kernel
theorem d_M_join_126 : decode b_M_join 126 = .ok (.istore 4, 2) := by decide +kernel
theorem d_M_join_128 : decode b_M_join 128 = .ok (.iload 4, 2) := by decide +kernel
theorem d_M_join_130 : decode b_M_join 130 = .ok (.aload_n 0, 1) := by decide +kernel
theorem d_M_join_131 : decode b_M_join 131 = .ok (.getfield 103, 3) := by decide +kernel
theorem d_M_join_134 : decode b_M_join 134 = .ok (.if_icmp .ge 25, 3) := by decide +kernel
theorem d_M_join_137 : decode b_M_join 137 = .ok (.aload_n 0, 1) := by decide +kernel
theorem d_M_join_138 : decode b_M_join 138 = .ok (.getfield 36, 3) := by decide +kernel
theorem d_M_join_141 : decode b_M_join 141 = .ok (.aload_n 0, 1) := by decide +kernel
theorem d_M_join_142 : decode b_M_join 142 = .ok (.getfield 43, 3) := by decide +kernel
theorem d_M_join_145 : decode b_M_join 145 = .ok (.iload 4, 2) := by decide +kernel
theorem d_M_join_147 : decode b_M_join 147 = .ok (.iaload, 1) := by decide +kernel
theorem d_M_join_148 : decode b_M_join 148 = .ok (.aload_n 0, 1) := by decide +kernel
theorem d_M_join_149 : decode b_M_join 149 = .ok (.getfield 100, 3) := by decide +kernel
theorem d_M_join_152 : decode b_M_join 152 = .ok (.iastore, 1) := by decide +kernel
theorem d_M_join_153 : decode b_M_join 153 = .ok (.iinc 4 1, 3) := by decide +kernel
theorem d_M_join_156 : decode b_M_join 156 = .ok (.goto (-28), 3) := by decide +kernel
theorem d_M_join_159 : decode b_M_join 159 = .ok (.aload_n 0, 1) := by decide +kernel
theorem d_M_join_160 : decode b_M_join 160 = .ok (.dup, 1) := by decide +kernel
theorem d_M_join_161 : decode b_M_join 161 = .ok (.getfield 103, 3) := by decide +kernel
theorem d_M_join_164 : decode b_M_join 164 = .ok (.iload_n 2, 1) := by decide +kernel
theorem d_M_join_165 : decode b_M_join 165 = .ok (.isub, 1) := by decide +kernel
theorem d_M_join_166 : decode b_M_join 166 = .ok (.putfield 103, 3) := by decide +kernel
theorem d_M_join_169 : decode b_M_join 169 = .ok (.aload_n 0, 1) := by decide +kernel
theorem d_M_join_170 : decode b_M_join 170 = .ok (.getfield 17, 3) := by decide +kernel
theorem d_M_join_173 : decode b_M_join 173 = .ok (.aload_n 0, 1) := by decide +kernel
theorem d_M_join_174 : decode b_M_join 174 = .ok (.getfield 100, 3) := by decide +kernel
theorem d_M_join_177 : decode b_M_join 177 = .ok (.iload_n 1, 1) := by decide +kernel
theorem d_M_join_178 : decode b_M_join 178 = .ok (.i2b, 1) := by decide +kernel
theorem d_M_join_179 : decode b_M_join 179 = .ok (.bastore, 1) := by decide +kernel
theorem d_M_join_180 : decode b_M_join 180 = .ok (.aload_n 0, 1) := by decide +kernel
theorem d_M_join_181 : decode b_M_join 181 = .ok (.getfield 30, 3) := by decide +kernel
theorem d_M_join_184 : decode b_M_join 184 = .ok (.aload_n 0, 1) := by decide +kernel
theorem d_M_join_185 : decode b_M_join 185 = .ok (.getfield 100, 3) := by decide +kernel
theorem d_M_join_188 : decode b_M_join 188 = .ok (.iload_n 3, 1) := by decide +kernel
theorem d_M_join_189 : decode b_M_join 189 = .ok (.iconst 1, 1) := by decide +kernel
theorem d_M_join_190 : decode b_M_join 190 = .ok (.iadd, 1) := by decide +kernel
theorem d_M_join_191 : decode b_M_join 191 = .ok (.i2b, 1) := by decide +kernel
theorem d_M_join_192 : decode b_M_join 192 = .ok (.bastore, 1) := by decide +kernel
theorem d_M_join_193 : decode b_M_join 193 = .ok (.aload_n 0, 1) := by decide +kernel
theorem d_M_join_194 : decode b_M_join 194 = .ok (.invokevirtual 110, 3) := by decide +kernel
theorem d_M_join_197 : decode b_M_join 197 = .ok (.ireturn, 1) := by decide +kernel
theorem d_M_layer_0 : decode b_M_layer 0 = .ok (.aload_n 0, 1) := by decide +kernel
theorem d_M_layer_1 : decode b_M_layer 1 = .ok (.getfield 67, 3) := by decide +kernel
theorem d_M_layer_4 : decode b_M_layer 4 = .ok (.ireturn, 1) := by decide +kernel
theorem d_M_length_0 : decode b_M_length 0 = .ok (.iconst 0, 1) := by decide +kernel
theorem d_M_length_1 : decode b_M_length 1 = .ok (.istore_n 2, 1) := by decide +kernel
theorem d_M_length_2 : decode b_M_length 2 = .ok (.iload_n 2, 1) := by decide +kernel
theorem d_M_length_3 : decode b_M_length 3 = .ok (.bipush 8, 2) := by decide +kernel
theorem d_M_length_5 : decode b_M_length 5 = .ok (.if_icmp .ge 17, 3) := by decide +kernel
theorem d_M_length_8 : decode b_M_length 8 = .ok (.lload_n 0, 1) := by decide +kernel
theorem d_M_length_9 : decode b_M_length 9 = .ok (.iload_n 2, 1) := by decide +kernel
theorem d_M_length_10 : decode b_M_length 10 = .ok (.invokestatic 77, 3) := by decide +kernel
theorem d_M_length_13 : decode b_M_length 13 = .ok (.ifCond .eq 9, 3) := by decide +kernel
theorem d_M_length_16 : decode b_M_length 16 = .ok (.iinc 2 1, 3) := by decide +kernel
theorem d_M_length_19 : decode b_M_length 19 = .ok (.goto (-17), 3) := by decide +kernel
theorem d_M_length_22 : decode b_M_length 22 = .ok (.iload_n 2, 1) := by decide +kernel
theorem d_M_length_23 : decode b_M_length 23 = .ok (.ireturn, 1) := by decide +kernel
theorem d_M_matches_0 : decode b_M_matches 0 = .ok (.aload_n 0, 1) := by decide +kernel
theorem d_M_matches_1 : decode b_M_matches 1 = .ok (.lload_n 1, 1) := by decide +kernel
theorem d_M_matches_2 : decode b_M_matches 2 = .ok (.invokevirtual 92, 3) := by decide +kernel
theorem d_M_matches_5 : decode b_M_matches 5 = .ok (.ifCond .ne 5, 3) := by decide +kernel
theorem d_M_matches_8 : decode b_M_matches 8 = .ok (.iconst 0, 1) := by decide +kernel
theorem d_M_matches_9 : decode b_M_matches 9 = .ok (.ireturn, 1) := by decide +kernel
theorem d_M_matches_10 : decode b_M_matches 10 = .ok (.lload_n 3, 1) := by decide +kernel
theorem d_M_matches_11 : decode b_M_matches 11 = .ok (.invokestatic 84, 3) := by decide +kernel
theorem d_M_matches_14 : decode b_M_matches 14 = .ok (.istore 6, 2) := by decide +kernel
theorem d_M_matches_16 : decode b_M_matches 16 = .ok (.iconst 1, 1) := by decide +kernel
theorem d_M_matches_17 : decode b_M_matches 17 = .ok (.istore 7, 2) := by decide +kernel
theorem d_M_matches_19 : decode b_M_matches 19 = .ok (.iconst 0, 1) := by decide +kernel
theorem d_M_matches_20 : decode b_M_matches 20 = .ok (.istore 8, 2) := by decide +kernel
theorem d_M_matches_22 : decode b_M_matches 22 = .ok (.iload 8, 2) := by decide +kernel
theorem d_M_matches_24 : decode b_M_matches 24 = .ok (.aload_n 0, 1) := by decide +kernel
theorem d_M_matches_25 : decode b_M_matches 25 = .ok (.getfield 81, 3) := by decide +kernel
theorem d_M_matches_28 : decode b_M_matches 28 = .ok (.if_icmp .ge 159, 3) := by decide +kernel
theorem d_M_matches_31 : decode b_M_matches 31 = .ok (.iconst 0, 1) := by decide +kernel
theorem d_M_matches_32 : decode b_M_matches 32 = .ok (.istore 9, 2) := by decide +kernel
theorem d_M_matches_34 : decode b_M_matches 34 = .ok (.iconst 0, 1) := by decide +kernel
theorem d_M_matches_35 : decode b_M_matches 35 = .ok (.istore 10, 2) := by decide +kernel
theorem d_M_matches_37 : decode b_M_matches 37 = .ok (.iload 10, 2) := by decide +kernel
theorem d_M_matches_39 : decode b_M_matches 39 = .ok (.iload 6, 2) := by decide +kernel
theorem d_M_matches_41 : decode b_M_matches 41 = .ok (.if_icmp .gt 136, 3) := by decide +kernel
theorem d_M_matches_44 : decode b_M_matches 44 = .ok (.iload 7, 2) := by decide +kernel
theorem d_M_matches_46 : decode b_M_matches 46 = .ok (.iload 10, 2) := by decide +kernel
theorem d_M_matches_48 : decode b_M_matches 48 = .ok (.ishr, 1) := by decide +kernel
theorem d_M_matches_49 : decode b_M_matches 49 = .ok (.iconst 1, 1) := by decide +kernel
theorem d_M_matches_50 : decode b_M_matches 50 = .ok (.iand, 1) := by decide +kernel
theorem d_M_matches_51 : decode b_M_matches 51 = .ok (.iconst 1, 1) := by decide +kernel
theorem d_M_matches_52 : decode b_M_matches 52 = .ok (.if_icmp .ne 7, 3) := by decide +kernel
theorem d_M_matches_55 : decode b_M_matches 55 = .ok (.iconst 1, 1) := by decide +kernel
theorem d_M_matches_56 : decode b_M_matches 56 = .ok (.goto 4, 3) := by decide +kernel
theorem d_M_matches_59 : decode b_M_matches 59 = .ok (.iconst 0, 1) := by decide +kernel
theorem d_M_matches_60 : decode b_M_matches 60 = .ok (.istore 11, 2) := by decide +kernel
theorem d_M_matches_62 : decode b_M_matches 62 = .ok (.iload 11, 2) := by decide +kernel
theorem d_M_matches_64 : decode b_M_matches 64 = .ok (.ifCond .eq 45, 3) := by decide +kernel
theorem d_M_matches_67 : decode b_M_matches 67 = .ok (.aload_n 0, 1) := by decide +kernel
theorem d_M_matches_68 : decode b_M_matches 68 = .ok (.getfield 74, 3) := by decide +kernel
theorem d_M_matches_71 : decode b_M_matches 71 = .ok (.iload 8, 2) := by decide +kernel
theorem d_M_matches_73 : decode b_M_matches 73 = .ok (.iaload, 1) := by decide +kernel
theorem d_M_matches_74 : decode b_M_matches 74 = .ok (.sipush 256, 3) := by decide +kernel
theorem d_M_matches_77 : decode b_M_matches 77 = .ok (.if_icmp .ne 32, 3) := by decide +kernel
theorem d_M_matches_80 : decode b_M_matches 80 = .ok (.iload 10, 2) := by decide +kernel
theorem d_M_matches_82 : decode b_M_matches 82 = .ok (.istore 12, 2) := by decide +kernel
theorem d_M_matches_84 : decode b_M_matches 84 = .ok (.iload 12, 2) := by decide +kernel
theorem d_M_matches_86 : decode b_M_matches 86 = .ok (.iload 6, 2) := by decide +kernel
theorem d_M_matches_88 : decode b_M_matches 88 = .ok (.if_icmp .gt 18, 3) := by decide +kernel
theorem d_M_matches_91 : decode b_M_matches 91 = .ok (.iload 9, 2) := by decide +kernel
theorem d_M_matches_93 : decode b_M_matches 93 = .ok (.iconst 1, 1) := by decide +kernel
theorem d_M_matches_94 : decode b_M_matches 94 = .ok (.iload 12, 2) := by decide +kernel
theorem d_M_matches_96 : decode b_M_matches 96 = .ok (.ishl, 1) := by decide +kernel
theorem d_M_matches_97 : decode b_M_matches 97 = .ok (.ior, 1) := by decide +kernel
theorem d_M_matches_98 : decode b_M_matches 98 = .ok (.istore 9, 2) := by decide +kernel
theorem d_M_matches_100 : decode b_M_matches 100 = .ok (.iinc 12 1, 3) := by decide +kernel
theorem d_M_matches_103 : decode b_M_matches 103 = .ok (.goto (-19), 3) := by decide +kernel
theorem d_M_matches_106 : decode b_M_matches 106 = .ok (.goto 65, 3) := by decide +kernel
theorem d_M_matches_109 : decode b_M_matches 109 = .ok (.iload 11, 2) := by decide +kernel
theorem d_M_matches_111 : decode b_M_matches 111 = .ok (.ifCond .eq 60, 3) := by decide +kernel
theorem d_M_matches_114 : decode b_M_matches 114 = .ok (.iload 10, 2) := by decide +kernel
theorem d_M_matches_116 : decode b_M_matches 116 = .ok (.iload 6, 2) := by decide +kernel
theorem d_M_matches_118 : decode b_M_matches 118 = .ok (.if_icmp .ge 53, 3) := by decide +kernel
theorem d_M_matches_121 : decode b_M_matches 121 = .ok (.aload_n 0, 1) := by decide +kernel
theorem d_M_matches_122 : decode b_M_matches 122 = .ok (.getfield 74, 3) := by decide +kernel
theorem d_M_matches_125 : decode b_M_matches 125 = .ok (.iload 8, 2) := by decide +kernel
theorem d_M_matches_127 : decode b_M_matches 127 = .ok (.iaload, 1) := by decide +kernel
theorem d_M_matches_128 : decode b_M_matches 128 = .ok (.sipush 257, 3) := by decide +kernel
theorem d_M_matches_131 : decode b_M_matches 131 = .ok (.if_icmp .eq 29, 3) := by decide +kernel
theorem d_M_matches_134 : decode b_M_matches 134 = .ok (.aload_n 0, 1) := by decide +kernel
theorem d_M_matches_135 : decode b_M_matches 135 = .ok (.getfield 74, 3) := by decide +kernel
theorem d_M_matches_138 : decode b_M_matches 138 = .ok (.iload 8, 2) := by decide +kernel
theorem d_M_matches_140 : decode b_M_matches 140 = .ok (.iaload, 1) := by decide +kernel
theorem d_M_matches_141 : decode b_M_matches 141 = .ok (.iload 5, 2) := by decide +kernel
theorem d_M_matches_143 : decode b_M_matches 143 = .ok (.invokestatic 96, 3) := by decide +kernel
theorem d_M_matches_146 : decode b_M_matches 146 = .ok (.lload_n 3, 1) := by decide +kernel
theorem d_M_matches_147 : decode b_M_matches 147 = .ok (.iload 10, 2) := by decide +kernel
theorem d_M_matches_149 : decode b_M_matches 149 = .ok (.invokestatic 77, 3) := by decide +kernel
theorem d_M_matches_152 : decode b_M_matches 152 = .ok (.iload 5, 2) := by decide +kernel
theorem d_M_matches_154 : decode b_M_matches 154 = .ok (.invokestatic 96, 3) := by decide +kernel
theorem d_M_matches_157 : decode b_M_matches 157 = .ok (.if_icmp .ne 14, 3) := by decide +kernel
theorem d_M_matches_160 : decode b_M_matches 160 = .ok (.iload 9, 2) := by decide +kernel
theorem d_M_matches_162 : decode b_M_matches 162 = .ok (.iconst 1, 1) := by decide +kernel
theorem d_M_matches_163 : decode b_M_matches 163 = .ok (.iload 10, 2) := by decide +kernel
theorem d_M_matches_165 : decode b_M_matches 165 = .ok (.iconst 1, 1) := by decide +kernel
theorem d_M_matches_166 : decode b_M_matches 166 = .ok (.iadd, 1) := by decide +kernel
theorem d_M_matches_167 : decode b_M_matches 167 = .ok (.ishl, 1) := by decide +kernel
theorem d_M_matches_168 : decode b_M_matches 168 = .ok (.ior, 1) := by decide +kernel
theorem d_M_matches_169 : decode b_M_matches 169 = .ok (.istore 9, 2) := by decide +kernel
theorem d_M_matches_171 : decode b_M_matches 171 = .ok (.iinc 10 1, 3) := by decide +kernel
theorem d_M_matches_174 : decode b_M_matches 174 = .ok (.goto (-137), 3) := by decide +kernel
theorem d_M_matches_177 : decode b_M_matches 177 = .ok (.iload 9, 2) := by decide +kernel
theorem d_M_matches_179 : decode b_M_matches 179 = .ok (.istore 7, 2) := by decide +kernel
theorem d_M_matches_181 : decode b_M_matches 181 = .ok (.iinc 8 1, 3) := by decide +kernel
theorem d_M_matches_184 : decode b_M_matches 184 = .ok (.goto (-162), 3) := by decide +kernel
theorem d_M_matches_187 : decode b_M_matches 187 = .ok (.iload 7, 2) := by decide +kernel
theorem d_M_matches_189 : decode b_M_matches 189 = .ok (.iload 6, 2) := by decide +kernel
theorem d_M_matches_191 : decode b_M_matches 191 = .ok (.ishr, 1) := by decide +kernel
theorem d_M_matches_192 : decode b_M_matches 192 = .ok (.iconst 1, 1) := by decide +kernel
theorem d_M_matches_193 : decode b_M_matches 193 = .ok (.iand, 1) := by decide +kernel
theorem d_M_matches_194 : decode b_M_matches 194 = .ok (.iconst 1, 1) := by decide +kernel
theorem d_M_matches_195 : decode b_M_matches 195 = .ok (.if_icmp .ne 7, 3) := by decide +kernel
theorem d_M_matches_198 : decode b_M_matches 198 = .ok (.iconst 1, 1) := by decide +kernel
theorem d_M_matches_199 : decode b_M_matches 199 = .ok (.goto 4, 3) := by decide +kernel
theorem d_M_matches_202 : decode b_M_matches 202 = .ok (.iconst 0, 1) := by decide +kernel
theorem d_M_matches_203 : decode b_M_matches 203 = .ok (.ireturn, 1) := by decide +kernel
theorem d_M_meant_0 : decode b_M_meant 0 = .ok (.aload_n 0, 1) := by decide +kernel
theorem d_M_meant_1 : decode b_M_meant 1 = .ok (.iconst 0, 1) := by decide +kernel
theorem d_M_meant_2 : decode b_M_meant 2 = .ok (.putfield 81, 3) := by decide +kernel
theorem d_M_meant_5 : decode b_M_meant 5 = .ok (.lload_n 1, 1) := by decide +kernel
theorem d_M_meant_6 : decode b_M_meant 6 = .ok (.invokestatic 84, 3) := by decide +kernel
theorem d_M_meant_9 : decode b_M_meant 9 = .ok (.istore_n 3, 1) := by decide +kernel
theorem d_M_meant_10 : decode b_M_meant 10 = .ok (.iconst 0, 1) := by decide +kernel
theorem d_M_meant_11 : decode b_M_meant 11 = .ok (.istore 4, 2) := by decide +kernel
theorem d_M_meant_13 : decode b_M_meant 13 = .ok (.iload 4, 2) := by decide +kernel
theorem d_M_meant_15 : decode b_M_meant 15 = .ok (.iload_n 3, 1) := by decide +kernel
theorem d_M_meant_16 : decode b_M_meant 16 = .ok (.if_icmp .ge 194, 3) := by decide +kernel
theorem d_M_meant_19 : decode b_M_meant 19 = .ok (.lload_n 1, 1) := by decide +kernel
theorem d_M_meant_20 : decode b_M_meant 20 = .ok (.iload 4, 2) := by decide +kernel
theorem d_M_meant_22 : decode b_M_meant 22 = .ok (.invokestatic 77, 3) := by decide +kernel
theorem d_M_meant_25 : decode b_M_meant 25 = .ok (.istore 5, 2) := by decide +kernel
theorem d_M_meant_27 : decode b_M_meant 27 = .ok (.iload 5, 2) := by decide +kernel
theorem d_M_meant_29 : decode b_M_meant 29 = .ok (.bipush 42, 2) := by decide +kernel
theorem d_M_meant_31 : decode b_M_meant 31 = .ok (.if_icmp .ne 13, 3) := by decide +kernel
theorem d_M_meant_34 : decode b_M_meant 34 = .ok (.aload_n 0, 1) := by decide +kernel
theorem d_M_meant_35 : decode b_M_meant 35 = .ok (.sipush 256, 3) := by decide +kernel
theorem d_M_meant_38 : decode b_M_meant 38 = .ok (.invokevirtual 88, 3) := by decide +kernel
theorem d_M_meant_41 : decode b_M_meant 41 = .ok (.goto 163, 3) := by decide +kernel
theorem d_M_meant_44 : decode b_M_meant 44 = .ok (.iload 5, 2) := by decide +kernel
theorem d_M_meant_46 : decode b_M_meant 46 = .ok (.bipush 63, 2) := by decide +kernel
theorem d_M_meant_48 : decode b_M_meant 48 = .ok (.if_icmp .ne 13, 3) := by decide +kernel
theorem d_M_meant_51 : decode b_M_meant 51 = .ok (.aload_n 0, 1) := by decide +kernel
theorem d_M_meant_52 : decode b_M_meant 52 = .ok (.sipush 257, 3) := by decide +kernel
theorem d_M_meant_55 : decode b_M_meant 55 = .ok (.invokevirtual 88, 3) := by decide +kernel
theorem d_M_meant_58 : decode b_M_meant 58 = .ok (.goto 146, 3) := by decide +kernel
theorem d_M_meant_61 : decode b_M_meant 61 = .ok (.iload 5, 2) := by decide +kernel
theorem d_M_meant_63 : decode b_M_meant 63 = .ok (.bipush 36, 2) := by decide +kernel
theorem d_M_meant_65 : decode b_M_meant 65 = .ok (.if_icmp .eq 12, 3) := by decide +kernel
theorem d_M_meant_68 : decode b_M_meant 68 = .ok (.aload_n 0, 1) := by decide +kernel
theorem d_M_meant_69 : decode b_M_meant 69 = .ok (.iload 5, 2) := by decide +kernel
theorem d_M_meant_71 : decode b_M_meant 71 = .ok (.invokevirtual 88, 3) := by decide +kernel
theorem d_M_meant_74 : decode b_M_meant 74 = .ok (.goto 130, 3) := by decide +kernel
theorem d_M_meant_77 : decode b_M_meant 77 = .ok (.iinc 4 1, 3) := by decide +kernel
theorem d_M_meant_80 : decode b_M_meant 80 = .ok (.iload 4, 2) := by decide +kernel
theorem d_M_meant_82 : decode b_M_meant 82 = .ok (.iload_n 3, 1) := by decide +kernel
theorem d_M_meant_83 : decode b_M_meant 83 = .ok (.if_icmp .ge 12, 3) := by decide +kernel
theorem d_M_meant_86 : decode b_M_meant 86 = .ok (.lload_n 1, 1) := by decide +kernel
theorem d_M_meant_87 : decode b_M_meant 87 = .ok (.iload 4, 2) := by decide +kernel
theorem d_M_meant_89 : decode b_M_meant 89 = .ok (.invokestatic 77, 3) := by decide +kernel
theorem d_M_meant_92 : decode b_M_meant 92 = .ok (.goto 4, 3) := by decide +kernel
theorem d_M_meant_95 : decode b_M_meant 95 = .ok (.iconst 0, 1) := by decide +kernel
theorem d_M_meant_96 : decode b_M_meant 96 = .ok (.istore 6, 2) := by decide +kernel
theorem d_M_meant_98 : decode b_M_meant 98 = .ok (.iload 6, 2) := by decide +kernel
theorem d_M_meant_100 : decode b_M_meant 100 = .ok (.bipush 48, 2) := by decide +kernel
theorem d_M_meant_102 : decode b_M_meant 102 = .ok (.isub, 1) := by decide +kernel
theorem d_M_meant_103 : decode b_M_meant 103 = .ok (.istore 7, 2) := by decide +kernel
theorem d_M_meant_105 : decode b_M_meant 105 = .ok (.iload 6, 2) := by decide +kernel
theorem d_M_meant_107 : decode b_M_meant 107 = .ok (.bipush 36, 2) := by decide +kernel
theorem d_M_meant_109 : decode b_M_meant 109 = .ok (.if_icmp .eq 17, 3) := by decide +kernel
theorem d_M_meant_112 : decode b_M_meant 112 = .ok (.iload 6, 2) := by decide +kernel
theorem d_M_meant_114 : decode b_M_meant 114 = .ok (.bipush 42, 2) := by decide +kernel
theorem d_M_meant_116 : decode b_M_meant 116 = .ok (.if_icmp .eq 10, 3) := by decide +kernel
theorem d_M_meant_119 : decode b_M_meant 119 = .ok (.iload 6, 2) := by decide +kernel
theorem d_M_meant_121 : decode b_M_meant 121 = .ok (.bipush 63, 2) := by decide +kernel
theorem d_M_meant_123 : decode b_M_meant 123 = .ok (.if_icmp .ne 12, 3) := by decide +kernel
theorem d_M_meant_126 : decode b_M_meant 126 = .ok (.aload_n 0, 1) := by decide +kernel
theorem d_M_meant_127 : decode b_M_meant 127 = .ok (.iload 6, 2) := by decide +kernel
theorem d_M_meant_129 : decode b_M_meant 129 = .ok (.invokevirtual 88, 3) := by decide +kernel
theorem d_M_meant_132 : decode b_M_meant 132 = .ok (.goto 72, 3) := by decide +kernel
theorem d_M_meant_135 : decode b_M_meant 135 = .ok (.iload 7, 2) := by decide +kernel
theorem d_M_meant_137 : decode b_M_meant 137 = .ok (.ifCond .lt 65, 3) := by decide +kernel
theorem d_M_meant_140 : decode b_M_meant 140 = .ok (.iload 7, 2) := by decide +kernel
theorem d_M_meant_142 : decode b_M_meant 142 = .ok (.bipush 7, 2) := by decide +kernel
theorem d_M_meant_144 : decode b_M_meant 144 = .ok (.if_icmp .gt 58, 3) := by decide +kernel
theorem d_M_meant_147 : decode b_M_meant 147 = .ok (.aload_n 0, 1) := by decide +kernel
theorem d_M_meant_148 : decode b_M_meant 148 = .ok (.getfield 7, 3) := by decide +kernel
theorem d_M_meant_151 : decode b_M_meant 151 = .ok (.iload 7, 2) := by decide +kernel
theorem d_M_meant_153 : decode b_M_meant 153 = .ok (.iaload, 1) := by decide +kernel
theorem d_M_meant_154 : decode b_M_meant 154 = .ok (.iconst 1, 1) := by decide +kernel
theorem d_M_meant_155 : decode b_M_meant 155 = .ok (.if_icmp .ne 47, 3) := by decide +kernel
theorem d_M_meant_158 : decode b_M_meant 158 = .ok (.aload_n 0, 1) := by decide +kernel
theorem d_M_meant_159 : decode b_M_meant 159 = .ok (.getfield 13, 3) := by decide +kernel
theorem d_M_meant_162 : decode b_M_meant 162 = .ok (.iconst 4, 1) := by decide +kernel
theorem d_M_meant_163 : decode b_M_meant 163 = .ok (.iload 7, 2) := by decide +kernel
theorem d_M_meant_165 : decode b_M_meant 165 = .ok (.imul, 1) := by decide +kernel
theorem d_M_meant_166 : decode b_M_meant 166 = .ok (.laload, 1) := by decide +kernel
theorem d_M_meant_167 : decode b_M_meant 167 = .ok (.lstore 8, 2) := by decide +kernel
theorem d_M_meant_169 : decode b_M_meant 169 = .ok (.iconst 0, 1) := by decide +kernel
theorem d_M_meant_170 : decode b_M_meant 170 = .ok (.istore 10, 2) := by decide +kernel
theorem d_M_meant_172 : decode b_M_meant 172 = .ok (.iload 10, 2) := by decide +kernel
theorem d_M_meant_174 : decode b_M_meant 174 = .ok (.lload 8, 2) := by decide +kernel
theorem d_M_meant_176 : decode b_M_meant 176 = .ok (.invokestatic 84, 3) := by decide +kernel
theorem d_M_meant_179 : decode b_M_meant 179 = .ok (.if_icmp .ge 20, 3) := by decide +kernel
theorem d_M_meant_182 : decode b_M_meant 182 = .ok (.aload_n 0, 1) := by decide +kernel
theorem d_M_meant_183 : decode b_M_meant 183 = .ok (.lload 8, 2) := by decide +kernel
theorem d_M_meant_185 : decode b_M_meant 185 = .ok (.iload 10, 2) := by decide +kernel
theorem d_M_meant_187 : decode b_M_meant 187 = .ok (.invokestatic 77, 3) := by decide +kernel
theorem d_M_meant_190 : decode b_M_meant 190 = .ok (.invokevirtual 88, 3) := by decide +kernel
theorem d_M_meant_193 : decode b_M_meant 193 = .ok (.iinc 10 1, 3) := by decide +kernel
theorem d_M_meant_196 : decode b_M_meant 196 = .ok (.goto (-24), 3) := by decide +kernel
theorem d_M_meant_199 : decode b_M_meant 199 = .ok (.goto 5, 3) := by decide +kernel
theorem d_M_meant_202 : decode b_M_meant 202 = .ok (.iconst 0, 1) := by decide +kernel
theorem d_M_meant_203 : decode b_M_meant 203 = .ok (.ireturn, 1) := by decide +kernel
theorem d_M_meant_204 : decode b_M_meant 204 = .ok (.iinc 4 1, 3) := by decide +kernel
theorem d_M_meant_207 : decode b_M_meant 207 = .ok (.goto (-194), 3) := by decide +kernel
theorem d_M_meant_210 : decode b_M_meant 210 = .ok (.iconst 1, 1) := by decide +kernel
theorem d_M_meant_211 : decode b_M_meant 211 = .ok (.ireturn, 1) := by decide +kernel
theorem d_M_offer_0 : decode b_M_offer 0 = .ok (.iload_n 1, 1) := by decide +kernel
theorem d_M_offer_1 : decode b_M_offer 1 = .ok (.bipush 7, 2) := by decide +kernel
theorem d_M_offer_3 : decode b_M_offer 3 = .ok (.invokestatic 106, 3) := by decide +kernel
theorem d_M_offer_6 : decode b_M_offer 6 = .ok (.ifCond .ne 6, 3) := by decide +kernel
theorem d_M_offer_9 : decode b_M_offer 9 = .ok (.bipush (-2), 2) := by decide +kernel
theorem d_M_offer_11 : decode b_M_offer 11 = .ok (.ireturn, 1) := by decide +kernel
theorem d_M_offer_12 : decode b_M_offer 12 = .ok (.aload_n 0, 1) := by decide +kernel
theorem d_M_offer_13 : decode b_M_offer 13 = .ok (.getfield 7, 3) := by decide +kernel
theorem d_M_offer_16 : decode b_M_offer 16 = .ok (.iload_n 1, 1) := by decide +kernel
theorem d_M_offer_17 : decode b_M_offer 17 = .ok (.iaload, 1) := by decide +kernel
theorem d_M_offer_18 : decode b_M_offer 18 = .ok (.iconst 4, 1) := by decide +kernel
theorem d_M_offer_19 : decode b_M_offer 19 = .ok (.if_icmp .ne 6, 3) := by decide +kernel
theorem d_M_offer_22 : decode b_M_offer 22 = .ok (.bipush (-3), 2) := by decide +kernel
theorem d_M_offer_24 : decode b_M_offer 24 = .ok (.ireturn, 1) := by decide +kernel
theorem d_M_offer_25 : decode b_M_offer 25 = .ok (.aload_n 0, 1) := by decide +kernel
theorem d_M_offer_26 : decode b_M_offer 26 = .ok (.getfield 13, 3) := by decide +kernel
theorem d_M_offer_29 : decode b_M_offer 29 = .ok (.iconst 4, 1) := by decide +kernel
theorem d_M_offer_30 : decode b_M_offer 30 = .ok (.iload_n 1, 1) := by decide +kernel
theorem d_M_offer_31 : decode b_M_offer 31 = .ok (.imul, 1) := by decide +kernel
theorem d_M_offer_32 : decode b_M_offer 32 = .ok (.aload_n 0, 1) := by decide +kernel
theorem d_M_offer_33 : decode b_M_offer 33 = .ok (.getfield 7, 3) := by decide +kernel
theorem d_M_offer_36 : decode b_M_offer 36 = .ok (.iload_n 1, 1) := by decide +kernel
theorem d_M_offer_37 : decode b_M_offer 37 = .ok (.iaload, 1) := by decide +kernel
theorem d_M_offer_38 : decode b_M_offer 38 = .ok (.iadd, 1) := by decide +kernel
theorem d_M_offer_39 : decode b_M_offer 39 = .ok (.lload_n 2, 1) := by decide +kernel
theorem d_M_offer_40 : decode b_M_offer 40 = .ok (.lastore, 1) := by decide +kernel
theorem d_M_offer_41 : decode b_M_offer 41 = .ok (.aload_n 0, 1) := by decide +kernel
theorem d_M_offer_42 : decode b_M_offer 42 = .ok (.getfield 7, 3) := by decide +kernel
theorem d_M_offer_45 : decode b_M_offer 45 = .ok (.iload_n 1, 1) := by decide +kernel
theorem d_M_offer_46 : decode b_M_offer 46 = .ok (.dup2, 1) := by decide +kernel
theorem d_M_offer_47 : decode b_M_offer 47 = .ok (.iaload, 1) := by decide +kernel
theorem d_M_offer_48 : decode b_M_offer 48 = .ok (.iconst 1, 1) := by decide +kernel
theorem d_M_offer_49 : decode b_M_offer 49 = .ok (.iadd, 1) := by decide +kernel
theorem d_M_offer_50 : decode b_M_offer 50 = .ok (.iastore, 1) := by decide +kernel
theorem d_M_offer_51 : decode b_M_offer 51 = .ok (.aload_n 0, 1) := by decide +kernel
theorem d_M_offer_52 : decode b_M_offer 52 = .ok (.getfield 7, 3) := by decide +kernel
theorem d_M_offer_55 : decode b_M_offer 55 = .ok (.iload_n 1, 1) := by decide +kernel
theorem d_M_offer_56 : decode b_M_offer 56 = .ok (.iaload, 1) := by decide +kernel
theorem d_M_offer_57 : decode b_M_offer 57 = .ok (.ireturn, 1) := by decide +kernel
theorem d_M_open_0 : decode b_M_open 0 = .ok (.iload_n 1, 1) := by decide +kernel
theorem d_M_open_1 : decode b_M_open 1 = .ok (.iconst 5, 1) := by decide +kernel
theorem d_M_open_2 : decode b_M_open 2 = .ok (.invokestatic 106, 3) := by decide +kernel
theorem d_M_open_5 : decode b_M_open 5 = .ok (.ifCond .eq 12, 3) := by decide +kernel
theorem d_M_open_8 : decode b_M_open 8 = .ok (.aload_n 0, 1) := by decide +kernel
theorem d_M_open_9 : decode b_M_open 9 = .ok (.getfield 46, 3) := by decide +kernel
theorem d_M_open_12 : decode b_M_open 12 = .ok (.iload_n 1, 1) := by decide +kernel
theorem d_M_open_13 : decode b_M_open 13 = .ok (.baload, 1) := by decide +kernel
theorem d_M_open_14 : decode b_M_open 14 = .ok (.ifCond .eq 5, 3) := by decide +kernel
theorem d_M_open_17 : decode b_M_open 17 = .ok (.iconst 0, 1) := by decide +kernel
theorem d_M_open_18 : decode b_M_open 18 = .ok (.ireturn, 1) := by decide +kernel
theorem d_M_open_19 : decode b_M_open 19 = .ok (.aload_n 0, 1) := by decide +kernel
theorem d_M_open_20 : decode b_M_open 20 = .ok (.getfield 46, 3) := by decide +kernel
theorem d_M_open_23 : decode b_M_open 23 = .ok (.iload_n 1, 1) := by decide +kernel
theorem d_M_open_24 : decode b_M_open 24 = .ok (.iconst 1, 1) := by decide +kernel
theorem d_M_open_25 : decode b_M_open 25 = .ok (.bastore, 1) := by decide +kernel
theorem d_M_open_26 : decode b_M_open 26 = .ok (.iconst 1, 1) := by decide +kernel
theorem d_M_open_27 : decode b_M_open 27 = .ok (.ireturn, 1) := by decide +kernel
theorem d_M_pile_0 : decode b_M_pile 0 = .ok (.aload_n 0, 1) := by decide +kernel
theorem d_M_pile_1 : decode b_M_pile 1 = .ok (.getfield 103, 3) := by decide +kernel
theorem d_M_pile_4 : decode b_M_pile 4 = .ok (.ireturn, 1) := by decide +kernel
theorem d_M_put_0 : decode b_M_put 0 = .ok (.aload_n 0, 1) := by decide +kernel
theorem d_M_put_1 : decode b_M_put 1 = .ok (.getfield 36, 3) := by decide +kernel
theorem d_M_put_4 : decode b_M_put 4 = .ok (.aload_n 0, 1) := by decide +kernel
theorem d_M_put_5 : decode b_M_put 5 = .ok (.getfield 100, 3) := by decide +kernel
theorem d_M_put_8 : decode b_M_put 8 = .ok (.iconst (-1), 1) := by decide +kernel
theorem d_M_put_9 : decode b_M_put 9 = .ok (.iastore, 1) := by decide +kernel
theorem d_M_put_10 : decode b_M_put 10 = .ok (.aload_n 0, 1) := by decide +kernel
theorem d_M_put_11 : decode b_M_put 11 = .ok (.getfield 43, 3) := by decide +kernel
theorem d_M_put_14 : decode b_M_put 14 = .ok (.aload_n 0, 1) := by decide +kernel
theorem d_M_put_15 : decode b_M_put 15 = .ok (.getfield 103, 3) := by decide +kernel
theorem d_M_put_18 : decode b_M_put 18 = .ok (.aload_n 0, 1) := by decide +kernel
theorem d_M_put_19 : decode b_M_put 19 = .ok (.getfield 100, 3) := by decide +kernel
theorem d_M_put_22 : decode b_M_put 22 = .ok (.iastore, 1) := by decide +kernel
theorem d_M_put_23 : decode b_M_put 23 = .ok (.aload_n 0, 1) := by decide +kernel
theorem d_M_put_24 : decode b_M_put 24 = .ok (.dup, 1) := by decide +kernel
theorem d_M_put_25 : decode b_M_put 25 = .ok (.getfield 103, 3) := by decide +kernel
theorem d_M_put_28 : decode b_M_put 28 = .ok (.iconst 1, 1) := by decide +kernel
theorem d_M_put_29 : decode b_M_put 29 = .ok (.iadd, 1) := by decide +kernel
theorem d_M_put_30 : decode b_M_put 30 = .ok (.putfield 103, 3) := by decide +kernel
theorem d_M_put_33 : decode b_M_put 33 = .ok (.aload_n 0, 1) := by decide +kernel
theorem d_M_put_34 : decode b_M_put 34 = .ok (.dup, 1) := by decide +kernel
theorem d_M_put_35 : decode b_M_put 35 = .ok (.getfield 100, 3) := by decide +kernel
theorem d_M_put_38 : decode b_M_put 38 = .ok (.iconst 1, 1) := by decide +kernel
theorem d_M_put_39 : decode b_M_put 39 = .ok (.iadd, 1) := by decide +kernel
theorem d_M_put_40 : decode b_M_put 40 = .ok (.putfield 100, 3) := by decide +kernel
theorem d_M_put_43 : decode b_M_put 43 = .ok (.aload_n 0, 1) := by decide +kernel
theorem d_M_put_44 : decode b_M_put 44 = .ok (.getfield 103, 3) := by decide +kernel
theorem d_M_put_47 : decode b_M_put 47 = .ok (.ireturn, 1) := by decide +kernel
theorem d_M_sameBits_0 : decode b_M_sameBits 0 = .ok (.lload_n 2, 1) := by decide +kernel
theorem d_M_sameBits_1 : decode b_M_sameBits 1 = .ok (.bipush 32, 2) := by decide +kernel
theorem d_M_sameBits_3 : decode b_M_sameBits 3 = .ok (.lshr, 1) := by decide +kernel
theorem d_M_sameBits_4 : decode b_M_sameBits 4 = .ok (.ldc2_w 114, 3) := by decide +kernel
theorem d_M_sameBits_7 : decode b_M_sameBits 7 = .ok (.land, 1) := by decide +kernel
theorem d_M_sameBits_8 : decode b_M_sameBits 8 = .ok (.l2i, 1) := by decide +kernel
theorem d_M_sameBits_9 : decode b_M_sameBits 9 = .ok (.istore 4, 2) := by decide +kernel
theorem d_M_sameBits_11 : decode b_M_sameBits 11 = .ok (.iconst 1, 1) := by decide +kernel
theorem d_M_sameBits_12 : decode b_M_sameBits 12 = .ok (.istore 5, 2) := by decide +kernel
theorem d_M_sameBits_14 : decode b_M_sameBits 14 = .ok (.iconst 0, 1) := by decide +kernel
theorem d_M_sameBits_15 : decode b_M_sameBits 15 = .ok (.istore 6, 2) := by decide +kernel
theorem d_M_sameBits_17 : decode b_M_sameBits 17 = .ok (.iload 6, 2) := by decide +kernel
theorem d_M_sameBits_19 : decode b_M_sameBits 19 = .ok (.bipush 32, 2) := by decide +kernel
theorem d_M_sameBits_21 : decode b_M_sameBits 21 = .ok (.if_icmp .ge 50, 3) := by decide +kernel
theorem d_M_sameBits_24 : decode b_M_sameBits 24 = .ok (.iload 6, 2) := by decide +kernel
theorem d_M_sameBits_26 : decode b_M_sameBits 26 = .ok (.iload 4, 2) := by decide +kernel
theorem d_M_sameBits_28 : decode b_M_sameBits 28 = .ok (.if_icmp .ge 43, 3) := by decide +kernel
theorem d_M_sameBits_31 : decode b_M_sameBits 31 = .ok (.iload 5, 2) := by decide +kernel
theorem d_M_sameBits_33 : decode b_M_sameBits 33 = .ok (.ifCond .eq 29, 3) := by decide +kernel
theorem d_M_sameBits_36 : decode b_M_sameBits 36 = .ok (.lload_n 0, 1) := by decide +kernel
theorem d_M_sameBits_37 : decode b_M_sameBits 37 = .ok (.bipush 31, 2) := by decide +kernel
theorem d_M_sameBits_39 : decode b_M_sameBits 39 = .ok (.iload 6, 2) := by decide +kernel
theorem d_M_sameBits_41 : decode b_M_sameBits 41 = .ok (.isub, 1) := by decide +kernel
theorem d_M_sameBits_42 : decode b_M_sameBits 42 = .ok (.lshr, 1) := by decide +kernel
theorem d_M_sameBits_43 : decode b_M_sameBits 43 = .ok (.lconst 1, 1) := by decide +kernel
theorem d_M_sameBits_44 : decode b_M_sameBits 44 = .ok (.land, 1) := by decide +kernel
theorem d_M_sameBits_45 : decode b_M_sameBits 45 = .ok (.lload_n 2, 1) := by decide +kernel
theorem d_M_sameBits_46 : decode b_M_sameBits 46 = .ok (.bipush 31, 2) := by decide +kernel
theorem d_M_sameBits_48 : decode b_M_sameBits 48 = .ok (.iload 6, 2) := by decide +kernel
theorem d_M_sameBits_50 : decode b_M_sameBits 50 = .ok (.isub, 1) := by decide +kernel
theorem d_M_sameBits_51 : decode b_M_sameBits 51 = .ok (.lshr, 1) := by decide +kernel
theorem d_M_sameBits_52 : decode b_M_sameBits 52 = .ok (.lconst 1, 1) := by decide +kernel
theorem d_M_sameBits_53 : decode b_M_sameBits 53 = .ok (.land, 1) := by decide +kernel
theorem d_M_sameBits_54 : decode b_M_sameBits 54 = .ok (.lcmp, 1) := by decide +kernel
theorem d_M_sameBits_55 : decode b_M_sameBits 55 = .ok (.ifCond .ne 7, 3) := by decide +kernel
theorem d_M_sameBits_58 : decode b_M_sameBits 58 = .ok (.iconst 1, 1) := by decide +kernel
theorem d_M_sameBits_59 : decode b_M_sameBits 59 = .ok (.goto 4, 3) := by decide +kernel
theorem d_M_sameBits_62 : decode b_M_sameBits 62 = .ok (.iconst 0, 1) := by decide +kernel
theorem d_M_sameBits_63 : decode b_M_sameBits 63 = .ok (.istore 5, 2) := by decide +kernel
theorem d_M_sameBits_65 : decode b_M_sameBits 65 = .ok (.iinc 6 1, 3) := by decide +kernel
theorem d_M_sameBits_68 : decode b_M_sameBits 68 = .ok (.goto (-51), 3) := by decide +kernel
theorem d_M_sameBits_71 : decode b_M_sameBits 71 = .ok (.iload 5, 2) := by decide +kernel
theorem d_M_sameBits_73 : decode b_M_sameBits 73 = .ok (.ireturn, 1) := by decide +kernel
theorem d_M_sameText_0 : decode b_M_sameText 0 = .ok (.lload_n 0, 1) := by decide +kernel
theorem d_M_sameText_1 : decode b_M_sameText 1 = .ok (.invokestatic 84, 3) := by decide +kernel
theorem d_M_sameText_4 : decode b_M_sameText 4 = .ok (.lload_n 2, 1) := by decide +kernel
theorem d_M_sameText_5 : decode b_M_sameText 5 = .ok (.invokestatic 84, 3) := by decide +kernel
theorem d_M_sameText_8 : decode b_M_sameText 8 = .ok (.if_icmp .ne 7, 3) := by decide +kernel
theorem d_M_sameText_11 : decode b_M_sameText 11 = .ok (.iconst 1, 1) := by decide +kernel
theorem d_M_sameText_12 : decode b_M_sameText 12 = .ok (.goto 4, 3) := by decide +kernel
theorem d_M_sameText_15 : decode b_M_sameText 15 = .ok (.iconst 0, 1) := by decide +kernel
theorem d_M_sameText_16 : decode b_M_sameText 16 = .ok (.istore 4, 2) := by decide +kernel
theorem d_M_sameText_18 : decode b_M_sameText 18 = .ok (.iconst 0, 1) := by decide +kernel
theorem d_M_sameText_19 : decode b_M_sameText 19 = .ok (.istore 5, 2) := by decide +kernel
theorem d_M_sameText_21 : decode b_M_sameText 21 = .ok (.iload 5, 2) := by decide +kernel
theorem d_M_sameText_23 : decode b_M_sameText 23 = .ok (.lload_n 0, 1) := by decide +kernel
theorem d_M_sameText_24 : decode b_M_sameText 24 = .ok (.invokestatic 84, 3) := by decide +kernel
theorem d_M_sameText_27 : decode b_M_sameText 27 = .ok (.if_icmp .ge 36, 3) := by decide +kernel
theorem d_M_sameText_30 : decode b_M_sameText 30 = .ok (.iload 4, 2) := by decide +kernel
theorem d_M_sameText_32 : decode b_M_sameText 32 = .ok (.ifCond .eq 22, 3) := by decide +kernel
theorem d_M_sameText_35 : decode b_M_sameText 35 = .ok (.lload_n 0, 1) := by decide +kernel
theorem d_M_sameText_36 : decode b_M_sameText 36 = .ok (.iload 5, 2) := by decide +kernel
theorem d_M_sameText_38 : decode b_M_sameText 38 = .ok (.invokestatic 77, 3) := by decide +kernel
theorem d_M_sameText_41 : decode b_M_sameText 41 = .ok (.lload_n 2, 1) := by decide +kernel
theorem d_M_sameText_42 : decode b_M_sameText 42 = .ok (.iload 5, 2) := by decide +kernel
theorem d_M_sameText_44 : decode b_M_sameText 44 = .ok (.invokestatic 77, 3) := by decide +kernel
theorem d_M_sameText_47 : decode b_M_sameText 47 = .ok (.if_icmp .ne 7, 3) := by decide +kernel
theorem d_M_sameText_50 : decode b_M_sameText 50 = .ok (.iconst 1, 1) := by decide +kernel
theorem d_M_sameText_51 : decode b_M_sameText 51 = .ok (.goto 4, 3) := by decide +kernel
theorem d_M_sameText_54 : decode b_M_sameText 54 = .ok (.iconst 0, 1) := by decide +kernel
theorem d_M_sameText_55 : decode b_M_sameText 55 = .ok (.istore 4, 2) := by decide +kernel
theorem d_M_sameText_57 : decode b_M_sameText 57 = .ok (.iinc 5 1, 3) := by decide +kernel
theorem d_M_sameText_60 : decode b_M_sameText 60 = .ok (.goto (-39), 3) := by decide +kernel
theorem d_M_sameText_63 : decode b_M_sameText 63 = .ok (.iload 4, 2) := by decide +kernel
theorem d_M_sameText_65 : decode b_M_sameText 65 = .ok (.ireturn, 1) := by decide +kernel
theorem d_M_settle_0 : decode b_M_settle 0 = .ok (.iconst 0, 1) := by decide +kernel
theorem d_M_settle_1 : decode b_M_settle 1 = .ok (.istore_n 1, 1) := by decide +kernel
theorem d_M_settle_2 : decode b_M_settle 2 = .ok (.iload_n 1, 1) := by decide +kernel
theorem d_M_settle_3 : decode b_M_settle 3 = .ok (.aload_n 0, 1) := by decide +kernel
theorem d_M_settle_4 : decode b_M_settle 4 = .ok (.getfield 100, 3) := by decide +kernel
theorem d_M_settle_7 : decode b_M_settle 7 = .ok (.if_icmp .ge 29, 3) := by decide +kernel
theorem d_M_settle_10 : decode b_M_settle 10 = .ok (.aload_n 0, 1) := by decide +kernel
theorem d_M_settle_11 : decode b_M_settle 11 = .ok (.getfield 39, 3) := by decide +kernel
theorem d_M_settle_14 : decode b_M_settle 14 = .ok (.iload_n 1, 1) := by decide +kernel
theorem d_M_settle_15 : decode b_M_settle 15 = .ok (.aload_n 0, 1) := by decide +kernel
theorem d_M_settle_16 : decode b_M_settle 16 = .ok (.getfield 17, 3) := by decide +kernel
theorem d_M_settle_19 : decode b_M_settle 19 = .ok (.iload_n 1, 1) := by decide +kernel
theorem d_M_settle_20 : decode b_M_settle 20 = .ok (.baload, 1) := by decide +kernel
theorem d_M_settle_21 : decode b_M_settle 21 = .ok (.ifCond .ne 7, 3) := by decide +kernel
theorem d_M_settle_24 : decode b_M_settle 24 = .ok (.iconst 1, 1) := by decide +kernel
theorem d_M_settle_25 : decode b_M_settle 25 = .ok (.goto 4, 3) := by decide +kernel
theorem d_M_settle_28 : decode b_M_settle 28 = .ok (.iconst 0, 1) := by decide +kernel
theorem d_M_settle_29 : decode b_M_settle 29 = .ok (.bastore, 1) := by decide +kernel
theorem d_M_settle_30 : decode b_M_settle 30 = .ok (.iinc 1 1, 3) := by decide +kernel
theorem d_M_settle_33 : decode b_M_settle 33 = .ok (.goto (-31), 3) := by decide +kernel
theorem d_M_settle_36 : decode b_M_settle 36 = .ok (.iconst 0, 1) := by decide +kernel
theorem d_M_settle_37 : decode b_M_settle 37 = .ok (.istore_n 1, 1) := by decide +kernel
theorem d_M_settle_38 : decode b_M_settle 38 = .ok (.iload_n 1, 1) := by decide +kernel
theorem d_M_settle_39 : decode b_M_settle 39 = .ok (.aload_n 0, 1) := by decide +kernel
theorem d_M_settle_40 : decode b_M_settle 40 = .ok (.getfield 100, 3) := by decide +kernel
theorem d_M_settle_43 : decode b_M_settle 43 = .ok (.if_icmp .ge 144, 3) := by decide +kernel
theorem d_M_settle_46 : decode b_M_settle 46 = .ok (.aload_n 0, 1) := by decide +kernel
theorem d_M_settle_47 : decode b_M_settle 47 = .ok (.getfield 17, 3) := by decide +kernel
theorem d_M_settle_50 : decode b_M_settle 50 = .ok (.iload_n 1, 1) := by decide +kernel
theorem d_M_settle_51 : decode b_M_settle 51 = .ok (.baload, 1) := by decide +kernel
theorem d_M_settle_52 : decode b_M_settle 52 = .ok (.iconst 3, 1) := by decide +kernel
theorem d_M_settle_53 : decode b_M_settle 53 = .ok (.if_icmp .ne 14, 3) := by decide +kernel
theorem d_M_settle_56 : decode b_M_settle 56 = .ok (.aload_n 0, 1) := by decide +kernel
theorem d_M_settle_57 : decode b_M_settle 57 = .ok (.getfield 39, 3) := by decide +kernel
theorem d_M_settle_60 : decode b_M_settle 60 = .ok (.iload_n 1, 1) := by decide +kernel
theorem d_M_settle_61 : decode b_M_settle 61 = .ok (.aload_n 0, 1) := by decide +kernel
theorem d_M_settle_62 : decode b_M_settle 62 = .ok (.iload_n 1, 1) := by decide +kernel
theorem d_M_settle_63 : decode b_M_settle 63 = .ok (.invokevirtual 131, 3) := by decide +kernel
theorem d_M_settle_66 : decode b_M_settle 66 = .ok (.bastore, 1) := by decide +kernel
theorem d_M_settle_67 : decode b_M_settle 67 = .ok (.aload_n 0, 1) := by decide +kernel
theorem d_M_settle_68 : decode b_M_settle 68 = .ok (.getfield 36, 3) := by decide +kernel
theorem d_M_settle_71 : decode b_M_settle 71 = .ok (.iload_n 1, 1) := by decide +kernel
theorem d_M_settle_72 : decode b_M_settle 72 = .ok (.iaload, 1) := by decide +kernel
theorem d_M_settle_73 : decode b_M_settle 73 = .ok (.istore_n 2, 1) := by decide +kernel
theorem d_M_settle_74 : decode b_M_settle 74 = .ok (.iload_n 2, 1) := by decide +kernel
theorem d_M_settle_75 : decode b_M_settle 75 = .ok (.ifCond .lt 106, 3) := by decide +kernel
theorem d_M_settle_78 : decode b_M_settle 78 = .ok (.aload_n 0, 1) := by decide +kernel
theorem d_M_settle_79 : decode b_M_settle 79 = .ok (.getfield 17, 3) := by decide +kernel
theorem d_M_settle_82 : decode b_M_settle 82 = .ok (.iload_n 2, 1) := by decide +kernel
theorem d_M_settle_83 : decode b_M_settle 83 = .ok (.baload, 1) := by decide +kernel
theorem d_M_settle_84 : decode b_M_settle 84 = .ok (.ifCond .ne 35, 3) := by decide +kernel
theorem d_M_settle_87 : decode b_M_settle 87 = .ok (.aload_n 0, 1) := by decide +kernel
theorem d_M_settle_88 : decode b_M_settle 88 = .ok (.getfield 39, 3) := by decide +kernel
theorem d_M_settle_91 : decode b_M_settle 91 = .ok (.iload_n 2, 1) := by decide +kernel
theorem d_M_settle_92 : decode b_M_settle 92 = .ok (.aload_n 0, 1) := by decide +kernel
theorem d_M_settle_93 : decode b_M_settle 93 = .ok (.getfield 39, 3) := by decide +kernel
theorem d_M_settle_96 : decode b_M_settle 96 = .ok (.iload_n 2, 1) := by decide +kernel
theorem d_M_settle_97 : decode b_M_settle 97 = .ok (.baload, 1) := by decide +kernel
theorem d_M_settle_98 : decode b_M_settle 98 = .ok (.ifCond .eq 16, 3) := by decide +kernel
theorem d_M_settle_101 : decode b_M_settle 101 = .ok (.aload_n 0, 1) := by decide +kernel
theorem d_M_settle_102 : decode b_M_settle 102 = .ok (.getfield 39, 3) := by decide +kernel
theorem d_M_settle_105 : decode b_M_settle 105 = .ok (.iload_n 1, 1) := by decide +kernel
theorem d_M_settle_106 : decode b_M_settle 106 = .ok (.baload, 1) := by decide +kernel
theorem d_M_settle_107 : decode b_M_settle 107 = .ok (.ifCond .eq 7, 3) := by decide +kernel
theorem d_M_settle_110 : decode b_M_settle 110 = .ok (.iconst 1, 1) := by decide +kernel
theorem d_M_settle_111 : decode b_M_settle 111 = .ok (.goto 4, 3) := by decide +kernel
theorem d_M_settle_114 : decode b_M_settle 114 = .ok (.iconst 0, 1) := by decide +kernel
theorem d_M_settle_115 : decode b_M_settle 115 = .ok (.bastore, 1) := by decide +kernel
theorem d_M_settle_116 : decode b_M_settle 116 = .ok (.goto 65, 3) := by decide +kernel
theorem d_M_settle_119 : decode b_M_settle 119 = .ok (.aload_n 0, 1) := by decide +kernel
theorem d_M_settle_120 : decode b_M_settle 120 = .ok (.getfield 17, 3) := by decide +kernel
theorem d_M_settle_123 : decode b_M_settle 123 = .ok (.iload_n 2, 1) := by decide +kernel
theorem d_M_settle_124 : decode b_M_settle 124 = .ok (.baload, 1) := by decide +kernel
theorem d_M_settle_125 : decode b_M_settle 125 = .ok (.iconst 1, 1) := by decide +kernel
theorem d_M_settle_126 : decode b_M_settle 126 = .ok (.if_icmp .ne 35, 3) := by decide +kernel
theorem d_M_settle_129 : decode b_M_settle 129 = .ok (.aload_n 0, 1) := by decide +kernel
theorem d_M_settle_130 : decode b_M_settle 130 = .ok (.getfield 39, 3) := by decide +kernel
theorem d_M_settle_133 : decode b_M_settle 133 = .ok (.iload_n 2, 1) := by decide +kernel
theorem d_M_settle_134 : decode b_M_settle 134 = .ok (.aload_n 0, 1) := by decide +kernel
theorem d_M_settle_135 : decode b_M_settle 135 = .ok (.getfield 39, 3) := by decide +kernel
theorem d_M_settle_138 : decode b_M_settle 138 = .ok (.iload_n 2, 1) := by decide +kernel
theorem d_M_settle_139 : decode b_M_settle 139 = .ok (.baload, 1) := by decide +kernel
theorem d_M_settle_140 : decode b_M_settle 140 = .ok (.ifCond .ne 12, 3) := by decide +kernel
theorem d_M_settle_143 : decode b_M_settle 143 = .ok (.aload_n 0, 1) := by decide +kernel
theorem d_M_settle_144 : decode b_M_settle 144 = .ok (.getfield 39, 3) := by decide +kernel
theorem d_M_settle_147 : decode b_M_settle 147 = .ok (.iload_n 1, 1) := by decide +kernel
theorem d_M_settle_148 : decode b_M_settle 148 = .ok (.baload, 1) := by decide +kernel
theorem d_M_settle_149 : decode b_M_settle 149 = .ok (.ifCond .eq 7, 3) := by decide +kernel
theorem d_M_settle_152 : decode b_M_settle 152 = .ok (.iconst 1, 1) := by decide +kernel
theorem d_M_settle_153 : decode b_M_settle 153 = .ok (.goto 4, 3) := by decide +kernel
theorem d_M_settle_156 : decode b_M_settle 156 = .ok (.iconst 0, 1) := by decide +kernel
theorem d_M_settle_157 : decode b_M_settle 157 = .ok (.bastore, 1) := by decide +kernel
theorem d_M_settle_158 : decode b_M_settle 158 = .ok (.goto 23, 3) := by decide +kernel
theorem d_M_settle_161 : decode b_M_settle 161 = .ok (.aload_n 0, 1) := by decide +kernel
theorem d_M_settle_162 : decode b_M_settle 162 = .ok (.getfield 39, 3) := by decide +kernel
theorem d_M_settle_165 : decode b_M_settle 165 = .ok (.iload_n 2, 1) := by decide +kernel
theorem d_M_settle_166 : decode b_M_settle 166 = .ok (.aload_n 0, 1) := by decide +kernel
theorem d_M_settle_167 : decode b_M_settle 167 = .ok (.getfield 39, 3) := by decide +kernel
theorem d_M_settle_170 : decode b_M_settle 170 = .ok (.iload_n 1, 1) := by decide +kernel
theorem d_M_settle_171 : decode b_M_settle 171 = .ok (.baload, 1) := by decide +kernel
theorem d_M_settle_172 : decode b_M_settle 172 = .ok (.ifCond .ne 7, 3) := by decide +kernel
theorem d_M_settle_175 : decode b_M_settle 175 = .ok (.iconst 1, 1) := by decide +kernel
theorem d_M_settle_176 : decode b_M_settle 176 = .ok (.goto 4, 3) := by decide +kernel
theorem d_M_settle_179 : decode b_M_settle 179 = .ok (.iconst 0, 1) := by decide +kernel
theorem d_M_settle_180 : decode b_M_settle 180 = .ok (.bastore, 1) := by decide +kernel
theorem d_M_settle_181 : decode b_M_settle 181 = .ok (.iinc 1 1, 3) := by decide +kernel
theorem d_M_settle_184 : decode b_M_settle 184 = .ok (.goto (-146), 3) := by decide +kernel
theorem d_M_settle_187 : decode b_M_settle 187 = .ok (.return_, 1) := by decide +kernel
theorem d_M_some_0 : decode b_M_some 0 = .ok (.iconst 0, 1) := by decide +kernel
theorem d_M_some_1 : decode b_M_some 1 = .ok (.istore 4, 2) := by decide +kernel
theorem d_M_some_3 : decode b_M_some 3 = .ok (.iconst 0, 1) := by decide +kernel
theorem d_M_some_4 : decode b_M_some 4 = .ok (.istore 5, 2) := by decide +kernel
theorem d_M_some_6 : decode b_M_some 6 = .ok (.iload 5, 2) := by decide +kernel
theorem d_M_some_8 : decode b_M_some 8 = .ok (.aload_n 0, 1) := by decide +kernel
theorem d_M_some_9 : decode b_M_some 9 = .ok (.getfield 49, 3) := by decide +kernel
theorem d_M_some_12 : decode b_M_some 12 = .ok (.iload_n 1, 1) := by decide +kernel
theorem d_M_some_13 : decode b_M_some 13 = .ok (.iaload, 1) := by decide +kernel
theorem d_M_some_14 : decode b_M_some 14 = .ok (.if_icmp .ge 93, 3) := by decide +kernel
theorem d_M_some_17 : decode b_M_some 17 = .ok (.bipush 6, 2) := by decide +kernel
theorem d_M_some_19 : decode b_M_some 19 = .ok (.iload_n 1, 1) := by decide +kernel
theorem d_M_some_20 : decode b_M_some 20 = .ok (.imul, 1) := by decide +kernel
theorem d_M_some_21 : decode b_M_some 21 = .ok (.iload 5, 2) := by decide +kernel
theorem d_M_some_23 : decode b_M_some 23 = .ok (.iadd, 1) := by decide +kernel
theorem d_M_some_24 : decode b_M_some 24 = .ok (.istore 6, 2) := by decide +kernel
theorem d_M_some_26 : decode b_M_some 26 = .ok (.aload_n 0, 1) := by decide +kernel
theorem d_M_some_27 : decode b_M_some 27 = .ok (.getfield 52, 3) := by decide +kernel
theorem d_M_some_30 : decode b_M_some 30 = .ok (.iload 6, 2) := by decide +kernel
theorem d_M_some_32 : decode b_M_some 32 = .ok (.iaload, 1) := by decide +kernel
theorem d_M_some_33 : decode b_M_some 33 = .ok (.iconst 1, 1) := by decide +kernel
theorem d_M_some_34 : decode b_M_some 34 = .ok (.iand, 1) := by decide +kernel
theorem d_M_some_35 : decode b_M_some 35 = .ok (.ifCond .eq 7, 3) := by decide +kernel
theorem d_M_some_38 : decode b_M_some 38 = .ok (.iconst 1, 1) := by decide +kernel
theorem d_M_some_39 : decode b_M_some 39 = .ok (.goto 4, 3) := by decide +kernel
theorem d_M_some_42 : decode b_M_some 42 = .ok (.iconst 0, 1) := by decide +kernel
theorem d_M_some_43 : decode b_M_some 43 = .ok (.iload_n 2, 1) := by decide +kernel
theorem d_M_some_44 : decode b_M_some 44 = .ok (.if_icmp .ne 22, 3) := by decide +kernel
theorem d_M_some_47 : decode b_M_some 47 = .ok (.iload_n 3, 1) := by decide +kernel
theorem d_M_some_48 : decode b_M_some 48 = .ok (.ifCond .lt 14, 3) := by decide +kernel
theorem d_M_some_51 : decode b_M_some 51 = .ok (.aload_n 0, 1) := by decide +kernel
theorem d_M_some_52 : decode b_M_some 52 = .ok (.getfield 61, 3) := by decide +kernel
theorem d_M_some_55 : decode b_M_some 55 = .ok (.iload 6, 2) := by decide +kernel
theorem d_M_some_57 : decode b_M_some 57 = .ok (.iaload, 1) := by decide +kernel
theorem d_M_some_58 : decode b_M_some 58 = .ok (.iload_n 3, 1) := by decide +kernel
theorem d_M_some_59 : decode b_M_some 59 = .ok (.if_icmp .ne 7, 3) := by decide +kernel
theorem d_M_some_62 : decode b_M_some 62 = .ok (.iconst 1, 1) := by decide +kernel
theorem d_M_some_63 : decode b_M_some 63 = .ok (.goto 4, 3) := by decide +kernel
theorem d_M_some_66 : decode b_M_some 66 = .ok (.iconst 0, 1) := by decide +kernel
theorem d_M_some_67 : decode b_M_some 67 = .ok (.istore 7, 2) := by decide +kernel
theorem d_M_some_69 : decode b_M_some 69 = .ok (.iload 4, 2) := by decide +kernel
theorem d_M_some_71 : decode b_M_some 71 = .ok (.ifCond .ne 23, 3) := by decide +kernel
theorem d_M_some_74 : decode b_M_some 74 = .ok (.iload 7, 2) := by decide +kernel
theorem d_M_some_76 : decode b_M_some 76 = .ok (.ifCond .eq 22, 3) := by decide +kernel
theorem d_M_some_79 : decode b_M_some 79 = .ok (.aload_n 0, 1) := by decide +kernel
theorem d_M_some_80 : decode b_M_some 80 = .ok (.getfield 71, 3) := by decide +kernel
theorem d_M_some_83 : decode b_M_some 83 = .ok (.iload_n 1, 1) := by decide +kernel
theorem d_M_some_84 : decode b_M_some 84 = .ok (.iaload, 1) := by decide +kernel
theorem d_M_some_85 : decode b_M_some 85 = .ok (.iload 5, 2) := by decide +kernel
theorem d_M_some_87 : decode b_M_some 87 = .ok (.ishr, 1) := by decide +kernel
theorem d_M_some_88 : decode b_M_some 88 = .ok (.iconst 1, 1) := by decide +kernel
theorem d_M_some_89 : decode b_M_some 89 = .ok (.iand, 1) := by decide +kernel
theorem d_M_some_90 : decode b_M_some 90 = .ok (.iconst 1, 1) := by decide +kernel
theorem d_M_some_91 : decode b_M_some 91 = .ok (.if_icmp .ne 7, 3) := by decide +kernel
theorem d_M_some_94 : decode b_M_some 94 = .ok (.iconst 1, 1) := by decide +kernel
theorem d_M_some_95 : decode b_M_some 95 = .ok (.goto 4, 3) := by decide +kernel
theorem d_M_some_98 : decode b_M_some 98 = .ok (.iconst 0, 1) := by decide +kernel
theorem d_M_some_99 : decode b_M_some 99 = .ok (.istore 4, 2) := by decide +kernel
theorem d_M_some_101 : decode b_M_some 101 = .ok (.iinc 5 1, 3) := by decide +kernel
theorem d_M_some_104 : decode b_M_some 104 = .ok (.goto (-98), 3) := by decide +kernel
theorem d_M_some_107 : decode b_M_some 107 = .ok (.iload 4, 2) := by decide +kernel
theorem d_M_some_109 : decode b_M_some 109 = .ok (.ireturn, 1) := by decide +kernel
theorem d_M_state_0 : decode b_M_state 0 = .ok (.iload 7, 2) := by decide +kernel
theorem d_M_state_2 : decode b_M_state 2 = .ok (.iconst (-1), 1) := by decide +kernel
theorem d_M_state_3 : decode b_M_state 3 = .ok (.if_icmp .eq 33, 3) := by decide +kernel
theorem d_M_state_6 : decode b_M_state 6 = .ok (.iload_n 1, 1) := by decide +kernel
theorem d_M_state_7 : decode b_M_state 7 = .ok (.iconst 5, 1) := by decide +kernel
theorem d_M_state_8 : decode b_M_state 8 = .ok (.if_icmp .ne 32, 3) := by decide +kernel
theorem d_M_state_11 : decode b_M_state 11 = .ok (.iload 7, 2) := by decide +kernel
theorem d_M_state_13 : decode b_M_state 13 = .ok (.bipush 9, 2) := by decide +kernel
theorem d_M_state_15 : decode b_M_state 15 = .ok (.invokestatic 106, 3) := by decide +kernel
theorem d_M_state_18 : decode b_M_state 18 = .ok (.ifCond .ne 18, 3) := by decide +kernel
theorem d_M_state_21 : decode b_M_state 21 = .ok (.iload 7, 2) := by decide +kernel
theorem d_M_state_23 : decode b_M_state 23 = .ok (.bipush 100, 2) := by decide +kernel
theorem d_M_state_25 : decode b_M_state 25 = .ok (.if_icmp .lt 15, 3) := by decide +kernel
theorem d_M_state_28 : decode b_M_state 28 = .ok (.iload 7, 2) := by decide +kernel
theorem d_M_state_30 : decode b_M_state 30 = .ok (.sipush 199, 3) := by decide +kernel
theorem d_M_state_33 : decode b_M_state 33 = .ok (.if_icmp .gt 7, 3) := by decide +kernel
theorem d_M_state_36 : decode b_M_state 36 = .ok (.iconst 1, 1) := by decide +kernel
theorem d_M_state_37 : decode b_M_state 37 = .ok (.goto 4, 3) := by decide +kernel
theorem d_M_state_40 : decode b_M_state 40 = .ok (.iconst 0, 1) := by decide +kernel
theorem d_M_state_41 : decode b_M_state 41 = .ok (.istore 8, 2) := by decide +kernel
theorem d_M_state_43 : decode b_M_state 43 = .ok (.iload_n 1, 1) := by decide +kernel
theorem d_M_state_44 : decode b_M_state 44 = .ok (.iconst 5, 1) := by decide +kernel
theorem d_M_state_45 : decode b_M_state 45 = .ok (.invokestatic 106, 3) := by decide +kernel
theorem d_M_state_48 : decode b_M_state 48 = .ok (.ifCond .eq 30, 3) := by decide +kernel
theorem d_M_state_51 : decode b_M_state 51 = .ok (.iload_n 2, 1) := by decide +kernel
theorem d_M_state_52 : decode b_M_state 52 = .ok (.bipush 15, 2) := by decide +kernel
theorem d_M_state_54 : decode b_M_state 54 = .ok (.invokestatic 106, 3) := by decide +kernel
theorem d_M_state_57 : decode b_M_state 57 = .ok (.ifCond .eq 21, 3) := by decide +kernel
theorem d_M_state_60 : decode b_M_state 60 = .ok (.iload 8, 2) := by decide +kernel
theorem d_M_state_62 : decode b_M_state 62 = .ok (.ifCond .eq 16, 3) := by decide +kernel
theorem d_M_state_65 : decode b_M_state 65 = .ok (.iload_n 2, 1) := by decide +kernel
theorem d_M_state_66 : decode b_M_state 66 = .ok (.bipush 8, 2) := by decide +kernel
theorem d_M_state_68 : decode b_M_state 68 = .ok (.if_icmp .lt 13, 3) := by decide +kernel
theorem d_M_state_71 : decode b_M_state 71 = .ok (.aload_n 0, 1) := by decide +kernel
theorem d_M_state_72 : decode b_M_state 72 = .ok (.getfield 103, 3) := by decide +kernel
theorem d_M_state_75 : decode b_M_state 75 = .ok (.ifCond .ne 6, 3) := by decide +kernel
theorem d_M_state_78 : decode b_M_state 78 = .ok (.bipush (-2), 2) := by decide +kernel
theorem d_M_state_80 : decode b_M_state 80 = .ok (.ireturn, 1) := by decide +kernel
theorem d_M_state_81 : decode b_M_state 81 = .ok (.aload_n 0, 1) := by decide +kernel
theorem d_M_state_82 : decode b_M_state 82 = .ok (.getfield 49, 3) := by decide +kernel
theorem d_M_state_85 : decode b_M_state 85 = .ok (.iload_n 1, 1) := by decide +kernel
theorem d_M_state_86 : decode b_M_state 86 = .ok (.iaload, 1) := by decide +kernel
theorem d_M_state_87 : decode b_M_state 87 = .ok (.bipush 6, 2) := by decide +kernel
theorem d_M_state_89 : decode b_M_state 89 = .ok (.if_icmp .ne 6, 3) := by decide +kernel
theorem d_M_state_92 : decode b_M_state 92 = .ok (.bipush (-3), 2) := by decide +kernel
theorem d_M_state_94 : decode b_M_state 94 = .ok (.ireturn, 1) := by decide +kernel
theorem d_M_state_95 : decode b_M_state 95 = .ok (.bipush 6, 2) := by decide +kernel
theorem d_M_state_97 : decode b_M_state 97 = .ok (.iload_n 1, 1) := by decide +kernel
theorem d_M_state_98 : decode b_M_state 98 = .ok (.imul, 1) := by decide +kernel
theorem d_M_state_99 : decode b_M_state 99 = .ok (.aload_n 0, 1) := by decide +kernel
theorem d_M_state_100 : decode b_M_state 100 = .ok (.getfield 49, 3) := by decide +kernel
theorem d_M_state_103 : decode b_M_state 103 = .ok (.iload_n 1, 1) := by decide +kernel
theorem d_M_state_104 : decode b_M_state 104 = .ok (.iaload, 1) := by decide +kernel
theorem d_M_state_105 : decode b_M_state 105 = .ok (.iadd, 1) := by decide +kernel
theorem d_M_state_106 : decode b_M_state 106 = .ok (.istore 9, 2) := by decide +kernel
theorem d_M_state_108 : decode b_M_state 108 = .ok (.aload_n 0, 1) := by decide +kernel
theorem d_M_state_109 : decode b_M_state 109 = .ok (.getfield 52, 3) := by decide +kernel
theorem d_M_state_112 : decode b_M_state 112 = .ok (.iload 9, 2) := by decide +kernel
theorem d_M_state_114 : decode b_M_state 114 = .ok (.iload_n 2, 1) := by decide +kernel
theorem d_M_state_115 : decode b_M_state 115 = .ok (.iastore, 1) := by decide +kernel
theorem d_M_state_116 : decode b_M_state 116 = .ok (.aload_n 0, 1) := by decide +kernel
theorem d_M_state_117 : decode b_M_state 117 = .ok (.getfield 55, 3) := by decide +kernel
theorem d_M_state_120 : decode b_M_state 120 = .ok (.iload 9, 2) := by decide +kernel
theorem d_M_state_122 : decode b_M_state 122 = .ok (.lload_n 3, 1) := by decide +kernel
theorem d_M_state_123 : decode b_M_state 123 = .ok (.lastore, 1) := by decide +kernel
theorem d_M_state_124 : decode b_M_state 124 = .ok (.aload_n 0, 1) := by decide +kernel
theorem d_M_state_125 : decode b_M_state 125 = .ok (.getfield 58, 3) := by decide +kernel
theorem d_M_state_128 : decode b_M_state 128 = .ok (.iload 9, 2) := by decide +kernel
theorem d_M_state_130 : decode b_M_state 130 = .ok (.lload 5, 2) := by decide +kernel
theorem d_M_state_132 : decode b_M_state 132 = .ok (.lastore, 1) := by decide +kernel
theorem d_M_state_133 : decode b_M_state 133 = .ok (.aload_n 0, 1) := by decide +kernel
theorem d_M_state_134 : decode b_M_state 134 = .ok (.getfield 61, 3) := by decide +kernel
theorem d_M_state_137 : decode b_M_state 137 = .ok (.iload 9, 2) := by decide +kernel
theorem d_M_state_139 : decode b_M_state 139 = .ok (.iload 7, 2) := by decide +kernel
theorem d_M_state_141 : decode b_M_state 141 = .ok (.iastore, 1) := by decide +kernel
theorem d_M_state_142 : decode b_M_state 142 = .ok (.aload_n 0, 1) := by decide +kernel
theorem d_M_state_143 : decode b_M_state 143 = .ok (.getfield 64, 3) := by decide +kernel
theorem d_M_state_146 : decode b_M_state 146 = .ok (.iload 9, 2) := by decide +kernel
theorem d_M_state_148 : decode b_M_state 148 = .ok (.iconst (-1), 1) := by decide +kernel
theorem d_M_state_149 : decode b_M_state 149 = .ok (.iastore, 1) := by decide +kernel
theorem d_M_state_150 : decode b_M_state 150 = .ok (.iload_n 2, 1) := by decide +kernel
theorem d_M_state_151 : decode b_M_state 151 = .ok (.bipush 8, 2) := by decide +kernel
theorem d_M_state_153 : decode b_M_state 153 = .ok (.if_icmp .lt 29, 3) := by decide +kernel
theorem d_M_state_156 : decode b_M_state 156 = .ok (.aload_n 0, 1) := by decide +kernel
theorem d_M_state_157 : decode b_M_state 157 = .ok (.dup, 1) := by decide +kernel
theorem d_M_state_158 : decode b_M_state 158 = .ok (.getfield 103, 3) := by decide +kernel
theorem d_M_state_161 : decode b_M_state 161 = .ok (.iconst 1, 1) := by decide +kernel
theorem d_M_state_162 : decode b_M_state 162 = .ok (.isub, 1) := by decide +kernel
theorem d_M_state_163 : decode b_M_state 163 = .ok (.putfield 103, 3) := by decide +kernel
theorem d_M_state_166 : decode b_M_state 166 = .ok (.aload_n 0, 1) := by decide +kernel
theorem d_M_state_167 : decode b_M_state 167 = .ok (.getfield 64, 3) := by decide +kernel
theorem d_M_state_170 : decode b_M_state 170 = .ok (.iload 9, 2) := by decide +kernel
theorem d_M_state_172 : decode b_M_state 172 = .ok (.aload_n 0, 1) := by decide +kernel
theorem d_M_state_173 : decode b_M_state 173 = .ok (.getfield 43, 3) := by decide +kernel
theorem d_M_state_176 : decode b_M_state 176 = .ok (.aload_n 0, 1) := by decide +kernel
theorem d_M_state_177 : decode b_M_state 177 = .ok (.getfield 103, 3) := by decide +kernel
theorem d_M_state_180 : decode b_M_state 180 = .ok (.iaload, 1) := by decide +kernel
theorem d_M_state_181 : decode b_M_state 181 = .ok (.iastore, 1) := by decide +kernel
theorem d_M_state_182 : decode b_M_state 182 = .ok (.aload_n 0, 1) := by decide +kernel
theorem d_M_state_183 : decode b_M_state 183 = .ok (.getfield 46, 3) := by decide +kernel
theorem d_M_state_186 : decode b_M_state 186 = .ok (.iload_n 1, 1) := by decide +kernel
theorem d_M_state_187 : decode b_M_state 187 = .ok (.iconst 1, 1) := by decide +kernel
theorem d_M_state_188 : decode b_M_state 188 = .ok (.bastore, 1) := by decide +kernel
theorem d_M_state_189 : decode b_M_state 189 = .ok (.aload_n 0, 1) := by decide +kernel
theorem d_M_state_190 : decode b_M_state 190 = .ok (.getfield 49, 3) := by decide +kernel
theorem d_M_state_193 : decode b_M_state 193 = .ok (.iload_n 1, 1) := by decide +kernel
theorem d_M_state_194 : decode b_M_state 194 = .ok (.dup2, 1) := by decide +kernel
theorem d_M_state_195 : decode b_M_state 195 = .ok (.iaload, 1) := by decide +kernel
theorem d_M_state_196 : decode b_M_state 196 = .ok (.iconst 1, 1) := by decide +kernel
theorem d_M_state_197 : decode b_M_state 197 = .ok (.iadd, 1) := by decide +kernel
theorem d_M_state_198 : decode b_M_state 198 = .ok (.iastore, 1) := by decide +kernel
theorem d_M_state_199 : decode b_M_state 199 = .ok (.aload_n 0, 1) := by decide +kernel
theorem d_M_state_200 : decode b_M_state 200 = .ok (.getfield 49, 3) := by decide +kernel
theorem d_M_state_203 : decode b_M_state 203 = .ok (.iload_n 1, 1) := by decide +kernel
theorem d_M_state_204 : decode b_M_state 204 = .ok (.iaload, 1) := by decide +kernel
theorem d_M_state_205 : decode b_M_state 205 = .ok (.iconst 1, 1) := by decide +kernel
theorem d_M_state_206 : decode b_M_state 206 = .ok (.isub, 1) := by decide +kernel
theorem d_M_state_207 : decode b_M_state 207 = .ok (.ireturn, 1) := by decide +kernel
theorem d_M_statements_0 : decode b_M_statements 0 = .ok (.iload_n 1, 1) := by decide +kernel
theorem d_M_statements_1 : decode b_M_statements 1 = .ok (.iconst 5, 1) := by decide +kernel
theorem d_M_statements_2 : decode b_M_statements 2 = .ok (.invokestatic 106, 3) := by decide +kernel
theorem d_M_statements_5 : decode b_M_statements 5 = .ok (.ifCond .ne 8, 3) := by decide +kernel
theorem d_M_statements_8 : decode b_M_statements 8 = .ok (.bipush (-2), 2) := by decide +kernel
theorem d_M_statements_10 : decode b_M_statements 10 = .ok (.goto 22, 3) := by decide +kernel
theorem d_M_statements_13 : decode b_M_statements 13 = .ok (.aload_n 0, 1) := by decide +kernel
theorem d_M_statements_14 : decode b_M_statements 14 = .ok (.getfield 46, 3) := by decide +kernel
theorem d_M_statements_17 : decode b_M_statements 17 = .ok (.iload_n 1, 1) := by decide +kernel
theorem d_M_statements_18 : decode b_M_statements 18 = .ok (.baload, 1) := by decide +kernel
theorem d_M_statements_19 : decode b_M_statements 19 = .ok (.ifCond .eq 12, 3) := by decide +kernel
theorem d_M_statements_22 : decode b_M_statements 22 = .ok (.aload_n 0, 1) := by decide +kernel
theorem d_M_statements_23 : decode b_M_statements 23 = .ok (.getfield 49, 3) := by decide +kernel
theorem d_M_statements_26 : decode b_M_statements 26 = .ok (.iload_n 1, 1) := by decide +kernel
theorem d_M_statements_27 : decode b_M_statements 27 = .ok (.iaload, 1) := by decide +kernel
theorem d_M_statements_28 : decode b_M_statements 28 = .ok (.goto 4, 3) := by decide +kernel
theorem d_M_statements_31 : decode b_M_statements 31 = .ok (.iconst (-1), 1) := by decide +kernel
theorem d_M_statements_32 : decode b_M_statements 32 = .ok (.ireturn, 1) := by decide +kernel
theorem d_M_test_0 : decode b_M_test 0 = .ok (.iload_n 1, 1) := by decide +kernel
theorem d_M_test_1 : decode b_M_test 1 = .ok (.bipush 7, 2) := by decide +kernel
theorem d_M_test_3 : decode b_M_test 3 = .ok (.invokestatic 106, 3) := by decide +kernel
theorem d_M_test_6 : decode b_M_test 6 = .ok (.ifCond .eq 22, 3) := by decide +kernel
theorem d_M_test_9 : decode b_M_test 9 = .ok (.iload_n 2, 1) := by decide +kernel
theorem d_M_test_10 : decode b_M_test 10 = .ok (.bipush 7, 2) := by decide +kernel
theorem d_M_test_12 : decode b_M_test 12 = .ok (.invokestatic 106, 3) := by decide +kernel
theorem d_M_test_15 : decode b_M_test 15 = .ok (.ifCond .eq 13, 3) := by decide +kernel
theorem d_M_test_18 : decode b_M_test 18 = .ok (.iload 5, 2) := by decide +kernel
theorem d_M_test_20 : decode b_M_test 20 = .ok (.bipush 7, 2) := by decide +kernel
theorem d_M_test_22 : decode b_M_test 22 = .ok (.invokestatic 106, 3) := by decide +kernel
theorem d_M_test_25 : decode b_M_test 25 = .ok (.ifCond .ne 6, 3) := by decide +kernel
theorem d_M_test_28 : decode b_M_test 28 = .ok (.bipush (-2), 2) := by decide +kernel
theorem d_M_test_30 : decode b_M_test 30 = .ok (.ireturn, 1) := by decide +kernel
theorem d_M_test_31 : decode b_M_test 31 = .ok (.aload_n 0, 1) := by decide +kernel
theorem d_M_test_32 : decode b_M_test 32 = .ok (.getfield 103, 3) := by decide +kernel
theorem d_M_test_35 : decode b_M_test 35 = .ok (.bipush 8, 2) := by decide +kernel
theorem d_M_test_37 : decode b_M_test 37 = .ok (.if_icmp .ne 6, 3) := by decide +kernel
theorem d_M_test_40 : decode b_M_test 40 = .ok (.bipush (-3), 2) := by decide +kernel
theorem d_M_test_42 : decode b_M_test 42 = .ok (.ireturn, 1) := by decide +kernel
theorem d_M_test_43 : decode b_M_test 43 = .ok (.aload_n 0, 1) := by decide +kernel
theorem d_M_test_44 : decode b_M_test 44 = .ok (.getfield 17, 3) := by decide +kernel
theorem d_M_test_47 : decode b_M_test 47 = .ok (.aload_n 0, 1) := by decide +kernel
theorem d_M_test_48 : decode b_M_test 48 = .ok (.getfield 100, 3) := by decide +kernel
theorem d_M_test_51 : decode b_M_test 51 = .ok (.iconst 3, 1) := by decide +kernel
theorem d_M_test_52 : decode b_M_test 52 = .ok (.bastore, 1) := by decide +kernel
theorem d_M_test_53 : decode b_M_test 53 = .ok (.aload_n 0, 1) := by decide +kernel
theorem d_M_test_54 : decode b_M_test 54 = .ok (.getfield 21, 3) := by decide +kernel
theorem d_M_test_57 : decode b_M_test 57 = .ok (.aload_n 0, 1) := by decide +kernel
theorem d_M_test_58 : decode b_M_test 58 = .ok (.getfield 100, 3) := by decide +kernel
theorem d_M_test_61 : decode b_M_test 61 = .ok (.iload_n 1, 1) := by decide +kernel
theorem d_M_test_62 : decode b_M_test 62 = .ok (.i2b, 1) := by decide +kernel
theorem d_M_test_63 : decode b_M_test 63 = .ok (.bastore, 1) := by decide +kernel
theorem d_M_test_64 : decode b_M_test 64 = .ok (.aload_n 0, 1) := by decide +kernel
theorem d_M_test_65 : decode b_M_test 65 = .ok (.getfield 24, 3) := by decide +kernel
theorem d_M_test_68 : decode b_M_test 68 = .ok (.aload_n 0, 1) := by decide +kernel
theorem d_M_test_69 : decode b_M_test 69 = .ok (.getfield 100, 3) := by decide +kernel
theorem d_M_test_72 : decode b_M_test 72 = .ok (.iload_n 2, 1) := by decide +kernel
theorem d_M_test_73 : decode b_M_test 73 = .ok (.i2b, 1) := by decide +kernel
theorem d_M_test_74 : decode b_M_test 74 = .ok (.bastore, 1) := by decide +kernel
theorem d_M_test_75 : decode b_M_test 75 = .ok (.aload_n 0, 1) := by decide +kernel
theorem d_M_test_76 : decode b_M_test 76 = .ok (.getfield 33, 3) := by decide +kernel
theorem d_M_test_79 : decode b_M_test 79 = .ok (.aload_n 0, 1) := by decide +kernel
theorem d_M_test_80 : decode b_M_test 80 = .ok (.getfield 100, 3) := by decide +kernel
theorem d_M_test_83 : decode b_M_test 83 = .ok (.lload_n 3, 1) := by decide +kernel
theorem d_M_test_84 : decode b_M_test 84 = .ok (.lastore, 1) := by decide +kernel
theorem d_M_test_85 : decode b_M_test 85 = .ok (.aload_n 0, 1) := by decide +kernel
theorem d_M_test_86 : decode b_M_test 86 = .ok (.getfield 27, 3) := by decide +kernel
theorem d_M_test_89 : decode b_M_test 89 = .ok (.aload_n 0, 1) := by decide +kernel
theorem d_M_test_90 : decode b_M_test 90 = .ok (.getfield 100, 3) := by decide +kernel
theorem d_M_test_93 : decode b_M_test 93 = .ok (.iload 5, 2) := by decide +kernel
theorem d_M_test_95 : decode b_M_test 95 = .ok (.i2b, 1) := by decide +kernel
theorem d_M_test_96 : decode b_M_test 96 = .ok (.bastore, 1) := by decide +kernel
theorem d_M_test_97 : decode b_M_test 97 = .ok (.aload_n 0, 1) := by decide +kernel
theorem d_M_test_98 : decode b_M_test 98 = .ok (.getfield 30, 3) := by decide +kernel
theorem d_M_test_101 : decode b_M_test 101 = .ok (.aload_n 0, 1) := by decide +kernel
theorem d_M_test_102 : decode b_M_test 102 = .ok (.getfield 100, 3) := by decide +kernel
theorem d_M_test_105 : decode b_M_test 105 = .ok (.iconst 1, 1) := by decide +kernel
theorem d_M_test_106 : decode b_M_test 106 = .ok (.bastore, 1) := by decide +kernel
theorem d_M_test_107 : decode b_M_test 107 = .ok (.aload_n 0, 1) := by decide +kernel
theorem d_M_test_108 : decode b_M_test 108 = .ok (.invokevirtual 110, 3) := by decide +kernel
theorem d_M_test_111 : decode b_M_test 111 = .ok (.ireturn, 1) := by decide +kernel
theorem d_M_tested_0 : decode b_M_tested 0 = .ok (.aload_n 0, 1) := by decide +kernel
theorem d_M_tested_1 : decode b_M_tested 1 = .ok (.getfield 24, 3) := by decide +kernel
theorem d_M_tested_4 : decode b_M_tested 4 = .ok (.iload_n 1, 1) := by decide +kernel
theorem d_M_tested_5 : decode b_M_tested 5 = .ok (.baload, 1) := by decide +kernel
theorem d_M_tested_6 : decode b_M_tested 6 = .ok (.istore_n 2, 1) := by decide +kernel
theorem d_M_tested_7 : decode b_M_tested 7 = .ok (.aload_n 0, 1) := by decide +kernel
theorem d_M_tested_8 : decode b_M_tested 8 = .ok (.getfield 27, 3) := by decide +kernel
theorem d_M_tested_11 : decode b_M_tested 11 = .ok (.iload_n 1, 1) := by decide +kernel
theorem d_M_tested_12 : decode b_M_tested 12 = .ok (.baload, 1) := by decide +kernel
theorem d_M_tested_13 : decode b_M_tested 13 = .ok (.iconst 1, 1) := by decide +kernel
theorem d_M_tested_14 : decode b_M_tested 14 = .ok (.iand, 1) := by decide +kernel
theorem d_M_tested_15 : decode b_M_tested 15 = .ok (.ifCond .eq 7, 3) := by decide +kernel
theorem d_M_tested_18 : decode b_M_tested 18 = .ok (.iconst 1, 1) := by decide +kernel
theorem d_M_tested_19 : decode b_M_tested 19 = .ok (.goto 4, 3) := by decide +kernel
theorem d_M_tested_22 : decode b_M_tested 22 = .ok (.iconst 0, 1) := by decide +kernel
theorem d_M_tested_23 : decode b_M_tested 23 = .ok (.istore_n 3, 1) := by decide +kernel
theorem d_M_tested_24 : decode b_M_tested 24 = .ok (.aload_n 0, 1) := by decide +kernel
theorem d_M_tested_25 : decode b_M_tested 25 = .ok (.getfield 27, 3) := by decide +kernel
theorem d_M_tested_28 : decode b_M_tested 28 = .ok (.iload_n 1, 1) := by decide +kernel
theorem d_M_tested_29 : decode b_M_tested 29 = .ok (.baload, 1) := by decide +kernel
theorem d_M_tested_30 : decode b_M_tested 30 = .ok (.iconst 4, 1) := by decide +kernel
theorem d_M_tested_31 : decode b_M_tested 31 = .ok (.iand, 1) := by decide +kernel
theorem d_M_tested_32 : decode b_M_tested 32 = .ok (.ifCond .eq 7, 3) := by decide +kernel
theorem d_M_tested_35 : decode b_M_tested 35 = .ok (.iconst 1, 1) := by decide +kernel
theorem d_M_tested_36 : decode b_M_tested 36 = .ok (.goto 4, 3) := by decide +kernel
theorem d_M_tested_39 : decode b_M_tested 39 = .ok (.iconst 0, 1) := by decide +kernel
theorem d_M_tested_40 : decode b_M_tested 40 = .ok (.istore 4, 2) := by decide +kernel
theorem d_M_tested_42 : decode b_M_tested 42 = .ok (.aload_n 0, 1) := by decide +kernel
theorem d_M_tested_43 : decode b_M_tested 43 = .ok (.getfield 21, 3) := by decide +kernel
theorem d_M_tested_46 : decode b_M_tested 46 = .ok (.iload_n 1, 1) := by decide +kernel
theorem d_M_tested_47 : decode b_M_tested 47 = .ok (.baload, 1) := by decide +kernel
theorem d_M_tested_48 : decode b_M_tested 48 = .ok (.bipush 7, 2) := by decide +kernel
theorem d_M_tested_50 : decode b_M_tested 50 = .ok (.if_icmp .ne 51, 3) := by decide +kernel
theorem d_M_tested_53 : decode b_M_tested 53 = .ok (.aload_n 0, 1) := by decide +kernel
theorem d_M_tested_54 : decode b_M_tested 54 = .ok (.getfield 7, 3) := by decide +kernel
theorem d_M_tested_57 : decode b_M_tested 57 = .ok (.iload_n 2, 1) := by decide +kernel
theorem d_M_tested_58 : decode b_M_tested 58 = .ok (.iaload, 1) := by decide +kernel
theorem d_M_tested_59 : decode b_M_tested 59 = .ok (.ifCond .ne 7, 3) := by decide +kernel
theorem d_M_tested_62 : decode b_M_tested 62 = .ok (.iconst 1, 1) := by decide +kernel
theorem d_M_tested_63 : decode b_M_tested 63 = .ok (.goto 4, 3) := by decide +kernel
theorem d_M_tested_66 : decode b_M_tested 66 = .ok (.iconst 0, 1) := by decide +kernel
theorem d_M_tested_67 : decode b_M_tested 67 = .ok (.aload_n 0, 1) := by decide +kernel
theorem d_M_tested_68 : decode b_M_tested 68 = .ok (.getfield 33, 3) := by decide +kernel
theorem d_M_tested_71 : decode b_M_tested 71 = .ok (.iload_n 1, 1) := by decide +kernel
theorem d_M_tested_72 : decode b_M_tested 72 = .ok (.laload, 1) := by decide +kernel
theorem d_M_tested_73 : decode b_M_tested 73 = .ok (.lconst 0, 1) := by decide +kernel
theorem d_M_tested_74 : decode b_M_tested 74 = .ok (.lcmp, 1) := by decide +kernel
theorem d_M_tested_75 : decode b_M_tested 75 = .ok (.ifCond .eq 7, 3) := by decide +kernel
theorem d_M_tested_78 : decode b_M_tested 78 = .ok (.iconst 1, 1) := by decide +kernel
theorem d_M_tested_79 : decode b_M_tested 79 = .ok (.goto 4, 3) := by decide +kernel
theorem d_M_tested_82 : decode b_M_tested 82 = .ok (.iconst 0, 1) := by decide +kernel
theorem d_M_tested_83 : decode b_M_tested 83 = .ok (.if_icmp .ne 7, 3) := by decide +kernel
theorem d_M_tested_86 : decode b_M_tested 86 = .ok (.iconst 1, 1) := by decide +kernel
theorem d_M_tested_87 : decode b_M_tested 87 = .ok (.goto 4, 3) := by decide +kernel
theorem d_M_tested_90 : decode b_M_tested 90 = .ok (.iconst 0, 1) := by decide +kernel
theorem d_M_tested_91 : decode b_M_tested 91 = .ok (.iload_n 3, 1) := by decide +kernel
theorem d_M_tested_92 : decode b_M_tested 92 = .ok (.if_icmp .eq 7, 3) := by decide +kernel
theorem d_M_tested_95 : decode b_M_tested 95 = .ok (.iconst 1, 1) := by decide +kernel
theorem d_M_tested_96 : decode b_M_tested 96 = .ok (.goto 4, 3) := by decide +kernel
theorem d_M_tested_99 : decode b_M_tested 99 = .ok (.iconst 0, 1) := by decide +kernel
theorem d_M_tested_100 : decode b_M_tested 100 = .ok (.ireturn, 1) := by decide +kernel
theorem d_M_tested_101 : decode b_M_tested 101 = .ok (.aload_n 0, 1) := by decide +kernel
theorem d_M_tested_102 : decode b_M_tested 102 = .ok (.getfield 7, 3) := by decide +kernel
theorem d_M_tested_105 : decode b_M_tested 105 = .ok (.iload_n 2, 1) := by decide +kernel
theorem d_M_tested_106 : decode b_M_tested 106 = .ok (.iaload, 1) := by decide +kernel
theorem d_M_tested_107 : decode b_M_tested 107 = .ok (.ifCond .ne 18, 3) := by decide +kernel
theorem d_M_tested_110 : decode b_M_tested 110 = .ok (.aload_n 0, 1) := by decide +kernel
theorem d_M_tested_111 : decode b_M_tested 111 = .ok (.getfield 27, 3) := by decide +kernel
theorem d_M_tested_114 : decode b_M_tested 114 = .ok (.iload_n 1, 1) := by decide +kernel
theorem d_M_tested_115 : decode b_M_tested 115 = .ok (.baload, 1) := by decide +kernel
theorem d_M_tested_116 : decode b_M_tested 116 = .ok (.ifCond .eq 7, 3) := by decide +kernel
theorem d_M_tested_119 : decode b_M_tested 119 = .ok (.iconst 1, 1) := by decide +kernel
theorem d_M_tested_120 : decode b_M_tested 120 = .ok (.goto 4, 3) := by decide +kernel
theorem d_M_tested_123 : decode b_M_tested 123 = .ok (.iconst 0, 1) := by decide +kernel
theorem d_M_tested_124 : decode b_M_tested 124 = .ok (.ireturn, 1) := by decide +kernel
theorem d_M_tested_125 : decode b_M_tested 125 = .ok (.iconst 0, 1) := by decide +kernel
theorem d_M_tested_126 : decode b_M_tested 126 = .ok (.istore 5, 2) := by decide +kernel
theorem d_M_tested_128 : decode b_M_tested 128 = .ok (.iconst 0, 1) := by decide +kernel
theorem d_M_tested_129 : decode b_M_tested 129 = .ok (.istore 6, 2) := by decide +kernel
theorem d_M_tested_131 : decode b_M_tested 131 = .ok (.iload 6, 2) := by decide +kernel
theorem d_M_tested_133 : decode b_M_tested 133 = .ok (.aload_n 0, 1) := by decide +kernel
theorem d_M_tested_134 : decode b_M_tested 134 = .ok (.getfield 7, 3) := by decide +kernel
theorem d_M_tested_137 : decode b_M_tested 137 = .ok (.iload_n 2, 1) := by decide +kernel
theorem d_M_tested_138 : decode b_M_tested 138 = .ok (.iaload, 1) := by decide +kernel
theorem d_M_tested_139 : decode b_M_tested 139 = .ok (.if_icmp .ge 55, 3) := by decide +kernel
theorem d_M_tested_142 : decode b_M_tested 142 = .ok (.aload_n 0, 1) := by decide +kernel
theorem d_M_tested_143 : decode b_M_tested 143 = .ok (.aload_n 0, 1) := by decide +kernel
theorem d_M_tested_144 : decode b_M_tested 144 = .ok (.getfield 21, 3) := by decide +kernel
theorem d_M_tested_147 : decode b_M_tested 147 = .ok (.iload_n 1, 1) := by decide +kernel
theorem d_M_tested_148 : decode b_M_tested 148 = .ok (.baload, 1) := by decide +kernel
theorem d_M_tested_149 : decode b_M_tested 149 = .ok (.aload_n 0, 1) := by decide +kernel
theorem d_M_tested_150 : decode b_M_tested 150 = .ok (.getfield 13, 3) := by decide +kernel
theorem d_M_tested_153 : decode b_M_tested 153 = .ok (.iconst 4, 1) := by decide +kernel
theorem d_M_tested_154 : decode b_M_tested 154 = .ok (.iload_n 2, 1) := by decide +kernel
theorem d_M_tested_155 : decode b_M_tested 155 = .ok (.imul, 1) := by decide +kernel
theorem d_M_tested_156 : decode b_M_tested 156 = .ok (.iload 6, 2) := by decide +kernel
theorem d_M_tested_158 : decode b_M_tested 158 = .ok (.iadd, 1) := by decide +kernel
theorem d_M_tested_159 : decode b_M_tested 159 = .ok (.laload, 1) := by decide +kernel
theorem d_M_tested_160 : decode b_M_tested 160 = .ok (.aload_n 0, 1) := by decide +kernel
theorem d_M_tested_161 : decode b_M_tested 161 = .ok (.getfield 33, 3) := by decide +kernel
theorem d_M_tested_164 : decode b_M_tested 164 = .ok (.iload_n 1, 1) := by decide +kernel
theorem d_M_tested_165 : decode b_M_tested 165 = .ok (.laload, 1) := by decide +kernel
theorem d_M_tested_166 : decode b_M_tested 166 = .ok (.invokevirtual 127, 3) := by decide +kernel
theorem d_M_tested_169 : decode b_M_tested 169 = .ok (.istore 7, 2) := by decide +kernel
theorem d_M_tested_171 : decode b_M_tested 171 = .ok (.iload 7, 2) := by decide +kernel
theorem d_M_tested_173 : decode b_M_tested 173 = .ok (.iload_n 3, 1) := by decide +kernel
theorem d_M_tested_174 : decode b_M_tested 174 = .ok (.if_icmp .eq 10, 3) := by decide +kernel
theorem d_M_tested_177 : decode b_M_tested 177 = .ok (.iload 5, 2) := by decide +kernel
theorem d_M_tested_179 : decode b_M_tested 179 = .ok (.iconst 1, 1) := by decide +kernel
theorem d_M_tested_180 : decode b_M_tested 180 = .ok (.iadd, 1) := by decide +kernel
theorem d_M_tested_181 : decode b_M_tested 181 = .ok (.goto 5, 3) := by decide +kernel
theorem d_M_tested_184 : decode b_M_tested 184 = .ok (.iload 5, 2) := by decide +kernel
theorem d_M_tested_186 : decode b_M_tested 186 = .ok (.istore 5, 2) := by decide +kernel
theorem d_M_tested_188 : decode b_M_tested 188 = .ok (.iinc 6 1, 3) := by decide +kernel
theorem d_M_tested_191 : decode b_M_tested 191 = .ok (.goto (-60), 3) := by decide +kernel
theorem d_M_tested_194 : decode b_M_tested 194 = .ok (.iload 4, 2) := by decide +kernel
theorem d_M_tested_196 : decode b_M_tested 196 = .ok (.ifCond .eq 22, 3) := by decide +kernel
theorem d_M_tested_199 : decode b_M_tested 199 = .ok (.iload 5, 2) := by decide +kernel
theorem d_M_tested_201 : decode b_M_tested 201 = .ok (.aload_n 0, 1) := by decide +kernel
theorem d_M_tested_202 : decode b_M_tested 202 = .ok (.getfield 7, 3) := by decide +kernel
theorem d_M_tested_205 : decode b_M_tested 205 = .ok (.iload_n 2, 1) := by decide +kernel
theorem d_M_tested_206 : decode b_M_tested 206 = .ok (.iaload, 1) := by decide +kernel
theorem d_M_tested_207 : decode b_M_tested 207 = .ok (.if_icmp .ne 7, 3) := by decide +kernel
theorem d_M_tested_210 : decode b_M_tested 210 = .ok (.iconst 1, 1) := by decide +kernel
theorem d_M_tested_211 : decode b_M_tested 211 = .ok (.goto 17, 3) := by decide +kernel
theorem d_M_tested_214 : decode b_M_tested 214 = .ok (.iconst 0, 1) := by decide +kernel
theorem d_M_tested_215 : decode b_M_tested 215 = .ok (.goto 13, 3) := by decide +kernel
theorem d_M_tested_218 : decode b_M_tested 218 = .ok (.iload 5, 2) := by decide +kernel
theorem d_M_tested_220 : decode b_M_tested 220 = .ok (.ifCond .le 7, 3) := by decide +kernel
theorem d_M_tested_223 : decode b_M_tested 223 = .ok (.iconst 1, 1) := by decide +kernel
theorem d_M_tested_224 : decode b_M_tested 224 = .ok (.goto 4, 3) := by decide +kernel
theorem d_M_tested_227 : decode b_M_tested 227 = .ok (.iconst 0, 1) := by decide +kernel
theorem d_M_tested_228 : decode b_M_tested 228 = .ok (.ireturn, 1) := by decide +kernel
theorem d_M_within_0 : decode b_M_within 0 = .ok (.iload_n 0, 1) := by decide +kernel
theorem d_M_within_1 : decode b_M_within 1 = .ok (.ifCond .lt 12, 3) := by decide +kernel
theorem d_M_within_4 : decode b_M_within 4 = .ok (.iload_n 0, 1) := by decide +kernel
theorem d_M_within_5 : decode b_M_within 5 = .ok (.iload_n 1, 1) := by decide +kernel
theorem d_M_within_6 : decode b_M_within 6 = .ok (.if_icmp .gt 7, 3) := by decide +kernel
theorem d_M_within_9 : decode b_M_within 9 = .ok (.iconst 1, 1) := by decide +kernel
theorem d_M_within_10 : decode b_M_within 10 = .ok (.goto 4, 3) := by decide +kernel
theorem d_M_within_13 : decode b_M_within 13 = .ok (.iconst 0, 1) := by decide +kernel
theorem d_M_within_14 : decode b_M_within 14 = .ok (.ireturn, 1) := by decide +kernel
