theorem dL_cell_0 : decode cL_cell 0 = .ok (.iload_n 1, 1) := by decide +kernel
theorem dL_cell_1 : decode cL_cell 1 = .ok (.aload_n 0, 1) := by decide +kernel
theorem dL_cell_2 : decode cL_cell 2 = .ok (.arraylength, 1) := by decide +kernel
theorem dL_cell_3 : decode cL_cell 3 = .ok (.if_icmp .ge 9, 3) := by decide +kernel
theorem dL_cell_6 : decode cL_cell 6 = .ok (.aload_n 0, 1) := by decide +kernel
theorem dL_cell_7 : decode cL_cell 7 = .ok (.iload_n 1, 1) := by decide +kernel
theorem dL_cell_8 : decode cL_cell 8 = .ok (.iaload, 1) := by decide +kernel
theorem dL_cell_9 : decode cL_cell 9 = .ok (.goto 15, 3) := by decide +kernel
theorem dL_cell_12 : decode cL_cell 12 = .ok (.sipush 7919, 3) := by decide +kernel
theorem dL_cell_15 : decode cL_cell 15 = .ok (.iload_n 1, 1) := by decide +kernel
theorem dL_cell_16 : decode cL_cell 16 = .ok (.iconst 3, 1) := by decide +kernel
theorem dL_cell_17 : decode cL_cell 17 = .ok (.iadd, 1) := by decide +kernel
theorem dL_cell_18 : decode cL_cell 18 = .ok (.imul, 1) := by decide +kernel
theorem dL_cell_19 : decode cL_cell 19 = .ok (.iload_n 1, 1) := by decide +kernel
theorem dL_cell_20 : decode cL_cell 20 = .ok (.bipush 11, 2) := by decide +kernel
theorem dL_cell_22 : decode cL_cell 22 = .ok (.iadd, 1) := by decide +kernel
theorem dL_cell_23 : decode cL_cell 23 = .ok (.imul, 1) := by decide +kernel
theorem dL_cell_24 : decode cL_cell 24 = .ok (.ireturn, 1) := by decide +kernel
theorem dL_low_0 : decode cL_low 0 = .ok (.iload_n 0, 1) := by decide +kernel
theorem dL_low_1 : decode cL_low 1 = .ok (.ldc 7, 2) := by decide +kernel
theorem dL_low_3 : decode cL_low 3 = .ok (.iand, 1) := by decide +kernel
theorem dL_low_4 : decode cL_low 4 = .ok (.iload_n 1, 1) := by decide +kernel
theorem dL_low_5 : decode cL_low 5 = .ok (.irem, 1) := by decide +kernel
theorem dL_low_6 : decode cL_low 6 = .ok (.ireturn, 1) := by decide +kernel
theorem dL_folds_0 : decode cL_folds 0 = .ok (.iconst 0, 1) := by decide +kernel
theorem dL_folds_1 : decode cL_folds 1 = .ok (.istore 6, 2) := by decide +kernel
theorem dL_folds_3 : decode cL_folds 3 = .ok (.iload 6, 2) := by decide +kernel
theorem dL_folds_5 : decode cL_folds 5 = .ok (.iload 5, 2) := by decide +kernel
theorem dL_folds_7 : decode cL_folds 7 = .ok (.if_icmp .ge 121, 3) := by decide +kernel
theorem dL_folds_10 : decode cL_folds 10 = .ok (.aload_n 0, 1) := by decide +kernel
theorem dL_folds_11 : decode cL_folds 11 = .ok (.iconst 0, 1) := by decide +kernel
theorem dL_folds_12 : decode cL_folds 12 = .ok (.iload 6, 2) := by decide +kernel
theorem dL_folds_14 : decode cL_folds 14 = .ok (.invokevirtual 8, 3) := by decide +kernel
theorem dL_folds_17 : decode cL_folds 17 = .ok (.istore 7, 2) := by decide +kernel
theorem dL_folds_19 : decode cL_folds 19 = .ok (.iload 7, 2) := by decide +kernel
theorem dL_folds_21 : decode cL_folds 21 = .ok (.ifCond .lt 7, 3) := by decide +kernel
theorem dL_folds_24 : decode cL_folds 24 = .ok (.iconst 1, 1) := by decide +kernel
theorem dL_folds_25 : decode cL_folds 25 = .ok (.goto 4, 3) := by decide +kernel
theorem dL_folds_28 : decode cL_folds 28 = .ok (.iconst 0, 1) := by decide +kernel
theorem dL_folds_29 : decode cL_folds 29 = .ok (.istore 8, 2) := by decide +kernel
theorem dL_folds_31 : decode cL_folds 31 = .ok (.iload 8, 2) := by decide +kernel
theorem dL_folds_33 : decode cL_folds 33 = .ok (.ifCond .eq 10, 3) := by decide +kernel
theorem dL_folds_36 : decode cL_folds 36 = .ok (.aload_n 3, 1) := by decide +kernel
theorem dL_folds_37 : decode cL_folds 37 = .ok (.iload 7, 2) := by decide +kernel
theorem dL_folds_39 : decode cL_folds 39 = .ok (.iaload, 1) := by decide +kernel
theorem dL_folds_40 : decode cL_folds 40 = .ok (.goto 5, 3) := by decide +kernel
theorem dL_folds_43 : decode cL_folds 43 = .ok (.iload 6, 2) := by decide +kernel
theorem dL_folds_45 : decode cL_folds 45 = .ok (.istore 9, 2) := by decide +kernel
theorem dL_folds_47 : decode cL_folds 47 = .ok (.iload 9, 2) := by decide +kernel
theorem dL_folds_49 : decode cL_folds 49 = .ok (.iload 6, 2) := by decide +kernel
theorem dL_folds_51 : decode cL_folds 51 = .ok (.if_icmp .ge 53, 3) := by decide +kernel
theorem dL_folds_54 : decode cL_folds 54 = .ok (.iload 8, 2) := by decide +kernel
theorem dL_folds_56 : decode cL_folds 56 = .ok (.ifCond .eq 48, 3) := by decide +kernel
theorem dL_folds_59 : decode cL_folds 59 = .ok (.aload_n 2, 1) := by decide +kernel
theorem dL_folds_60 : decode cL_folds 60 = .ok (.iload 7, 2) := by decide +kernel
theorem dL_folds_62 : decode cL_folds 62 = .ok (.iaload, 1) := by decide +kernel
theorem dL_folds_63 : decode cL_folds 63 = .ok (.ifCond .le 41, 3) := by decide +kernel
theorem dL_folds_66 : decode cL_folds 66 = .ok (.aload 4, 2) := by decide +kernel
theorem dL_folds_68 : decode cL_folds 68 = .ok (.iload 9, 2) := by decide +kernel
theorem dL_folds_70 : decode cL_folds 70 = .ok (.iaload, 1) := by decide +kernel
theorem dL_folds_71 : decode cL_folds 71 = .ok (.ifCond .eq 20, 3) := by decide +kernel
theorem dL_folds_74 : decode cL_folds 74 = .ok (.aload_n 1, 1) := by decide +kernel
theorem dL_folds_75 : decode cL_folds 75 = .ok (.aload 4, 2) := by decide +kernel
theorem dL_folds_77 : decode cL_folds 77 = .ok (.iload 9, 2) := by decide +kernel
theorem dL_folds_79 : decode cL_folds 79 = .ok (.iaload, 1) := by decide +kernel
theorem dL_folds_80 : decode cL_folds 80 = .ok (.iconst 1, 1) := by decide +kernel
theorem dL_folds_81 : decode cL_folds 81 = .ok (.isub, 1) := by decide +kernel
theorem dL_folds_82 : decode cL_folds 82 = .ok (.iaload, 1) := by decide +kernel
theorem dL_folds_83 : decode cL_folds 83 = .ok (.aload_n 2, 1) := by decide +kernel
theorem dL_folds_84 : decode cL_folds 84 = .ok (.iload 7, 2) := by decide +kernel
theorem dL_folds_86 : decode cL_folds 86 = .ok (.iaload, 1) := by decide +kernel
theorem dL_folds_87 : decode cL_folds 87 = .ok (.iand, 1) := by decide +kernel
theorem dL_folds_88 : decode cL_folds 88 = .ok (.ifCond .ne 7, 3) := by decide +kernel
theorem dL_folds_91 : decode cL_folds 91 = .ok (.iconst 1, 1) := by decide +kernel
theorem dL_folds_92 : decode cL_folds 92 = .ok (.goto 4, 3) := by decide +kernel
theorem dL_folds_95 : decode cL_folds 95 = .ok (.iconst 0, 1) := by decide +kernel
theorem dL_folds_96 : decode cL_folds 96 = .ok (.istore 8, 2) := by decide +kernel
theorem dL_folds_98 : decode cL_folds 98 = .ok (.iinc 9 1, 3) := by decide +kernel
theorem dL_folds_101 : decode cL_folds 101 = .ok (.goto (-54), 3) := by decide +kernel
theorem dL_folds_104 : decode cL_folds 104 = .ok (.aload 4, 2) := by decide +kernel
theorem dL_folds_106 : decode cL_folds 106 = .ok (.iload 6, 2) := by decide +kernel
theorem dL_folds_108 : decode cL_folds 108 = .ok (.iload 8, 2) := by decide +kernel
theorem dL_folds_110 : decode cL_folds 110 = .ok (.ifCond .eq 10, 3) := by decide +kernel
theorem dL_folds_113 : decode cL_folds 113 = .ok (.iload 7, 2) := by decide +kernel
theorem dL_folds_115 : decode cL_folds 115 = .ok (.iconst 1, 1) := by decide +kernel
theorem dL_folds_116 : decode cL_folds 116 = .ok (.iadd, 1) := by decide +kernel
theorem dL_folds_117 : decode cL_folds 117 = .ok (.goto 4, 3) := by decide +kernel
theorem dL_folds_120 : decode cL_folds 120 = .ok (.iconst 0, 1) := by decide +kernel
theorem dL_folds_121 : decode cL_folds 121 = .ok (.iastore, 1) := by decide +kernel
theorem dL_folds_122 : decode cL_folds 122 = .ok (.iinc 6 1, 3) := by decide +kernel
theorem dL_folds_125 : decode cL_folds 125 = .ok (.goto (-122), 3) := by decide +kernel
theorem dL_folds_128 : decode cL_folds 128 = .ok (.return_, 1) := by decide +kernel
theorem dL_isFolded_0 : decode cL_isFolded 0 = .ok (.iconst 0, 1) := by decide +kernel
theorem dL_isFolded_1 : decode cL_isFolded 1 = .ok (.istore 7, 2) := by decide +kernel
theorem dL_isFolded_3 : decode cL_isFolded 3 = .ok (.iconst (-1), 1) := by decide +kernel
theorem dL_isFolded_4 : decode cL_isFolded 4 = .ok (.istore 8, 2) := by decide +kernel
theorem dL_isFolded_6 : decode cL_isFolded 6 = .ok (.iconst 1, 1) := by decide +kernel
theorem dL_isFolded_7 : decode cL_isFolded 7 = .ok (.istore 9, 2) := by decide +kernel
theorem dL_isFolded_9 : decode cL_isFolded 9 = .ok (.iconst 0, 1) := by decide +kernel
theorem dL_isFolded_10 : decode cL_isFolded 10 = .ok (.istore 10, 2) := by decide +kernel
theorem dL_isFolded_12 : decode cL_isFolded 12 = .ok (.iload 10, 2) := by decide +kernel
theorem dL_isFolded_14 : decode cL_isFolded 14 = .ok (.iload 5, 2) := by decide +kernel
theorem dL_isFolded_16 : decode cL_isFolded 16 = .ok (.if_icmp .gt 225, 3) := by decide +kernel
theorem dL_isFolded_19 : decode cL_isFolded 19 = .ok (.iload 9, 2) := by decide +kernel
theorem dL_isFolded_21 : decode cL_isFolded 21 = .ok (.ifCond .eq 220, 3) := by decide +kernel
theorem dL_isFolded_24 : decode cL_isFolded 24 = .ok (.iload 10, 2) := by decide +kernel
theorem dL_isFolded_26 : decode cL_isFolded 26 = .ok (.iload 6, 2) := by decide +kernel
theorem dL_isFolded_28 : decode cL_isFolded 28 = .ok (.if_icmp .eq 10, 3) := by decide +kernel
theorem dL_isFolded_31 : decode cL_isFolded 31 = .ok (.iload 10, 2) := by decide +kernel
theorem dL_isFolded_33 : decode cL_isFolded 33 = .ok (.iload 5, 2) := by decide +kernel
theorem dL_isFolded_35 : decode cL_isFolded 35 = .ok (.if_icmp .ne 49, 3) := by decide +kernel
theorem dL_isFolded_38 : decode cL_isFolded 38 = .ok (.aload_n 0, 1) := by decide +kernel
theorem dL_isFolded_39 : decode cL_isFolded 39 = .ok (.iload 4, 2) := by decide +kernel
theorem dL_isFolded_41 : decode cL_isFolded 41 = .ok (.iload 10, 2) := by decide +kernel
theorem dL_isFolded_43 : decode cL_isFolded 43 = .ok (.invokevirtual 14, 3) := by decide +kernel
theorem dL_isFolded_46 : decode cL_isFolded 46 = .ok (.iload 7, 2) := by decide +kernel
theorem dL_isFolded_48 : decode cL_isFolded 48 = .ok (.if_icmp .ne 33, 3) := by decide +kernel
theorem dL_isFolded_51 : decode cL_isFolded 51 = .ok (.aload_n 0, 1) := by decide +kernel
theorem dL_isFolded_52 : decode cL_isFolded 52 = .ok (.iload 4, 2) := by decide +kernel
theorem dL_isFolded_54 : decode cL_isFolded 54 = .ok (.iload 10, 2) := by decide +kernel
theorem dL_isFolded_56 : decode cL_isFolded 56 = .ok (.invokevirtual 17, 3) := by decide +kernel
theorem dL_isFolded_59 : decode cL_isFolded 59 = .ok (.iload 7, 2) := by decide +kernel
theorem dL_isFolded_61 : decode cL_isFolded 61 = .ok (.if_icmp .ne 20, 3) := by decide +kernel
theorem dL_isFolded_64 : decode cL_isFolded 64 = .ok (.aload_n 0, 1) := by decide +kernel
theorem dL_isFolded_65 : decode cL_isFolded 65 = .ok (.iload 4, 2) := by decide +kernel
theorem dL_isFolded_67 : decode cL_isFolded 67 = .ok (.iload 10, 2) := by decide +kernel
theorem dL_isFolded_69 : decode cL_isFolded 69 = .ok (.invokevirtual 20, 3) := by decide +kernel
theorem dL_isFolded_72 : decode cL_isFolded 72 = .ok (.iload 8, 2) := by decide +kernel
theorem dL_isFolded_74 : decode cL_isFolded 74 = .ok (.if_icmp .ne 7, 3) := by decide +kernel
theorem dL_isFolded_77 : decode cL_isFolded 77 = .ok (.iconst 1, 1) := by decide +kernel
theorem dL_isFolded_78 : decode cL_isFolded 78 = .ok (.goto 4, 3) := by decide +kernel
theorem dL_isFolded_81 : decode cL_isFolded 81 = .ok (.iconst 0, 1) := by decide +kernel
theorem dL_isFolded_82 : decode cL_isFolded 82 = .ok (.istore 9, 2) := by decide +kernel
theorem dL_isFolded_84 : decode cL_isFolded 84 = .ok (.iload 10, 2) := by decide +kernel
theorem dL_isFolded_86 : decode cL_isFolded 86 = .ok (.iload 5, 2) := by decide +kernel
theorem dL_isFolded_88 : decode cL_isFolded 88 = .ok (.if_icmp .ge 147, 3) := by decide +kernel
theorem dL_isFolded_91 : decode cL_isFolded 91 = .ok (.aload_n 0, 1) := by decide +kernel
theorem dL_isFolded_92 : decode cL_isFolded 92 = .ok (.iconst 0, 1) := by decide +kernel
theorem dL_isFolded_93 : decode cL_isFolded 93 = .ok (.iload 10, 2) := by decide +kernel
theorem dL_isFolded_95 : decode cL_isFolded 95 = .ok (.invokevirtual 8, 3) := by decide +kernel
theorem dL_isFolded_98 : decode cL_isFolded 98 = .ok (.istore 11, 2) := by decide +kernel
theorem dL_isFolded_100 : decode cL_isFolded 100 = .ok (.iload 11, 2) := by decide +kernel
theorem dL_isFolded_102 : decode cL_isFolded 102 = .ok (.ifCond .lt 20, 3) := by decide +kernel
theorem dL_isFolded_105 : decode cL_isFolded 105 = .ok (.aload_n 1, 1) := by decide +kernel
theorem dL_isFolded_106 : decode cL_isFolded 106 = .ok (.iload 11, 2) := by decide +kernel
theorem dL_isFolded_108 : decode cL_isFolded 108 = .ok (.iaload, 1) := by decide +kernel
theorem dL_isFolded_109 : decode cL_isFolded 109 = .ok (.iload 4, 2) := by decide +kernel
theorem dL_isFolded_111 : decode cL_isFolded 111 = .ok (.ishr, 1) := by decide +kernel
theorem dL_isFolded_112 : decode cL_isFolded 112 = .ok (.iconst 1, 1) := by decide +kernel
theorem dL_isFolded_113 : decode cL_isFolded 113 = .ok (.iand, 1) := by decide +kernel
theorem dL_isFolded_114 : decode cL_isFolded 114 = .ok (.iconst 1, 1) := by decide +kernel
theorem dL_isFolded_115 : decode cL_isFolded 115 = .ok (.if_icmp .ne 7, 3) := by decide +kernel
theorem dL_isFolded_118 : decode cL_isFolded 118 = .ok (.iconst 1, 1) := by decide +kernel
theorem dL_isFolded_119 : decode cL_isFolded 119 = .ok (.goto 4, 3) := by decide +kernel
theorem dL_isFolded_122 : decode cL_isFolded 122 = .ok (.iconst 0, 1) := by decide +kernel
theorem dL_isFolded_123 : decode cL_isFolded 123 = .ok (.istore 12, 2) := by decide +kernel
theorem dL_isFolded_125 : decode cL_isFolded 125 = .ok (.iload 7, 2) := by decide +kernel
theorem dL_isFolded_127 : decode cL_isFolded 127 = .ok (.iload 12, 2) := by decide +kernel
theorem dL_isFolded_129 : decode cL_isFolded 129 = .ok (.ifCond .eq 17, 3) := by decide +kernel
theorem dL_isFolded_132 : decode cL_isFolded 132 = .ok (.aload_n 3, 1) := by decide +kernel
theorem dL_isFolded_133 : decode cL_isFolded 133 = .ok (.iload 10, 2) := by decide +kernel
theorem dL_isFolded_135 : decode cL_isFolded 135 = .ok (.iaload, 1) := by decide +kernel
theorem dL_isFolded_136 : decode cL_isFolded 136 = .ok (.ifCond .le 10, 3) := by decide +kernel
theorem dL_isFolded_139 : decode cL_isFolded 139 = .ok (.aload_n 2, 1) := by decide +kernel
theorem dL_isFolded_140 : decode cL_isFolded 140 = .ok (.iload 11, 2) := by decide +kernel
theorem dL_isFolded_142 : decode cL_isFolded 142 = .ok (.iaload, 1) := by decide +kernel
theorem dL_isFolded_143 : decode cL_isFolded 143 = .ok (.goto 4, 3) := by decide +kernel
theorem dL_isFolded_146 : decode cL_isFolded 146 = .ok (.iconst 0, 1) := by decide +kernel
theorem dL_isFolded_147 : decode cL_isFolded 147 = .ok (.iadd, 1) := by decide +kernel
theorem dL_isFolded_148 : decode cL_isFolded 148 = .ok (.istore 7, 2) := by decide +kernel
theorem dL_isFolded_150 : decode cL_isFolded 150 = .ok (.iload 12, 2) := by decide +kernel
theorem dL_isFolded_152 : decode cL_isFolded 152 = .ok (.ifCond .eq 8, 3) := by decide +kernel
theorem dL_isFolded_155 : decode cL_isFolded 155 = .ok (.iload 10, 2) := by decide +kernel
theorem dL_isFolded_157 : decode cL_isFolded 157 = .ok (.goto 5, 3) := by decide +kernel
theorem dL_isFolded_160 : decode cL_isFolded 160 = .ok (.iload 8, 2) := by decide +kernel
theorem dL_isFolded_162 : decode cL_isFolded 162 = .ok (.istore 8, 2) := by decide +kernel
theorem dL_isFolded_164 : decode cL_isFolded 164 = .ok (.iload 9, 2) := by decide +kernel
theorem dL_isFolded_166 : decode cL_isFolded 166 = .ok (.ifCond .eq 66, 3) := by decide +kernel
theorem dL_isFolded_169 : decode cL_isFolded 169 = .ok (.iload 11, 2) := by decide +kernel
theorem dL_isFolded_171 : decode cL_isFolded 171 = .ok (.bipush (-2), 2) := by decide +kernel
theorem dL_isFolded_173 : decode cL_isFolded 173 = .ok (.if_icmp .eq 59, 3) := by decide +kernel
theorem dL_isFolded_176 : decode cL_isFolded 176 = .ok (.aload_n 0, 1) := by decide +kernel
theorem dL_isFolded_177 : decode cL_isFolded 177 = .ok (.iconst 1, 1) := by decide +kernel
theorem dL_isFolded_178 : decode cL_isFolded 178 = .ok (.iload 10, 2) := by decide +kernel
theorem dL_isFolded_180 : decode cL_isFolded 180 = .ok (.invokevirtual 8, 3) := by decide +kernel
theorem dL_isFolded_183 : decode cL_isFolded 183 = .ok (.iload 11, 2) := by decide +kernel
theorem dL_isFolded_185 : decode cL_isFolded 185 = .ok (.if_icmp .ne 47, 3) := by decide +kernel
theorem dL_isFolded_188 : decode cL_isFolded 188 = .ok (.aload_n 0, 1) := by decide +kernel
theorem dL_isFolded_189 : decode cL_isFolded 189 = .ok (.iconst 2, 1) := by decide +kernel
theorem dL_isFolded_190 : decode cL_isFolded 190 = .ok (.iload 10, 2) := by decide +kernel
theorem dL_isFolded_192 : decode cL_isFolded 192 = .ok (.invokevirtual 8, 3) := by decide +kernel
theorem dL_isFolded_195 : decode cL_isFolded 195 = .ok (.iload 11, 2) := by decide +kernel
theorem dL_isFolded_197 : decode cL_isFolded 197 = .ok (.if_icmp .ne 35, 3) := by decide +kernel
theorem dL_isFolded_200 : decode cL_isFolded 200 = .ok (.iload 10, 2) := by decide +kernel
theorem dL_isFolded_202 : decode cL_isFolded 202 = .ok (.iload 6, 2) := by decide +kernel
theorem dL_isFolded_204 : decode cL_isFolded 204 = .ok (.if_icmp .ne 24, 3) := by decide +kernel
theorem dL_isFolded_207 : decode cL_isFolded 207 = .ok (.aload_n 0, 1) := by decide +kernel
theorem dL_isFolded_208 : decode cL_isFolded 208 = .ok (.iload 10, 2) := by decide +kernel
theorem dL_isFolded_210 : decode cL_isFolded 210 = .ok (.invokevirtual 23, 3) := by decide +kernel
theorem dL_isFolded_213 : decode cL_isFolded 213 = .ok (.aload_n 3, 1) := by decide +kernel
theorem dL_isFolded_214 : decode cL_isFolded 214 = .ok (.iload 10, 2) := by decide +kernel
theorem dL_isFolded_216 : decode cL_isFolded 216 = .ok (.iaload, 1) := by decide +kernel
theorem dL_isFolded_217 : decode cL_isFolded 217 = .ok (.ifCond .le 7, 3) := by decide +kernel
theorem dL_isFolded_220 : decode cL_isFolded 220 = .ok (.iconst 1, 1) := by decide +kernel
theorem dL_isFolded_221 : decode cL_isFolded 221 = .ok (.goto 4, 3) := by decide +kernel
theorem dL_isFolded_224 : decode cL_isFolded 224 = .ok (.iconst 0, 1) := by decide +kernel
theorem dL_isFolded_225 : decode cL_isFolded 225 = .ok (.if_icmp .ne 7, 3) := by decide +kernel
theorem dL_isFolded_228 : decode cL_isFolded 228 = .ok (.iconst 1, 1) := by decide +kernel
theorem dL_isFolded_229 : decode cL_isFolded 229 = .ok (.goto 4, 3) := by decide +kernel
theorem dL_isFolded_232 : decode cL_isFolded 232 = .ok (.iconst 0, 1) := by decide +kernel
theorem dL_isFolded_233 : decode cL_isFolded 233 = .ok (.istore 9, 2) := by decide +kernel
theorem dL_isFolded_235 : decode cL_isFolded 235 = .ok (.iinc 10 1, 3) := by decide +kernel
theorem dL_isFolded_238 : decode cL_isFolded 238 = .ok (.goto (-226), 3) := by decide +kernel
theorem dL_isFolded_241 : decode cL_isFolded 241 = .ok (.iload 9, 2) := by decide +kernel
theorem dL_isFolded_243 : decode cL_isFolded 243 = .ok (.ireturn, 1) := by decide +kernel
theorem dL_writes_0 : decode cL_writes 0 = .ok (.aload_n 0, 1) := by decide +kernel
theorem dL_writes_1 : decode cL_writes 1 = .ok (.iload_n 1, 1) := by decide +kernel
theorem dL_writes_2 : decode cL_writes 2 = .ok (.invokevirtual 27, 3) := by decide +kernel
theorem dL_writes_5 : decode cL_writes 5 = .ok (.istore_n 2, 1) := by decide +kernel
theorem dL_writes_6 : decode cL_writes 6 = .ok (.iload_n 2, 1) := by decide +kernel
theorem dL_writes_7 : decode cL_writes 7 = .ok (.ifCond .lt 12, 3) := by decide +kernel
theorem dL_writes_10 : decode cL_writes 10 = .ok (.iload_n 2, 1) := by decide +kernel
theorem dL_writes_11 : decode cL_writes 11 = .ok (.iconst 3, 1) := by decide +kernel
theorem dL_writes_12 : decode cL_writes 12 = .ok (.if_icmp .ge 7, 3) := by decide +kernel
theorem dL_writes_15 : decode cL_writes 15 = .ok (.iconst 1, 1) := by decide +kernel
theorem dL_writes_16 : decode cL_writes 16 = .ok (.goto 4, 3) := by decide +kernel
theorem dL_writes_19 : decode cL_writes 19 = .ok (.iconst 0, 1) := by decide +kernel
theorem dL_writes_20 : decode cL_writes 20 = .ok (.ireturn, 1) := by decide +kernel
