theorem dL_isSenseSo_50 : decode cL_isSenseSo 50 = .ok (.iload 4, 2) := by decide +kernel
theorem dL_isSenseSo_52 : decode cL_isSenseSo 52 = .ok (.ior, 1) := by decide +kernel
theorem dL_isSenseSo_53 : decode cL_isSenseSo 53 = .ok (.iload_n 1, 1) := by decide +kernel
theorem dL_isSenseSo_54 : decode cL_isSenseSo 54 = .ok (.ishr, 1) := by decide +kernel
theorem dL_isSenseSo_55 : decode cL_isSenseSo 55 = .ok (.iconst 1, 1) := by decide +kernel
theorem dL_isSenseSo_56 : decode cL_isSenseSo 56 = .ok (.iand, 1) := by decide +kernel
theorem dL_isSenseSo_57 : decode cL_isSenseSo 57 = .ok (.ifCond .ne 36, 3) := by decide +kernel
theorem dL_isSenseSo_60 : decode cL_isSenseSo 60 = .ok (.aload_n 0, 1) := by decide +kernel
theorem dL_isSenseSo_61 : decode cL_isSenseSo 61 = .ok (.invokevirtual 87, 3) := by decide +kernel
theorem dL_isSenseSo_64 : decode cL_isSenseSo 64 = .ok (.iload_n 3, 1) := by decide +kernel
theorem dL_isSenseSo_65 : decode cL_isSenseSo 65 = .ok (.ior, 1) := by decide +kernel
theorem dL_isSenseSo_66 : decode cL_isSenseSo 66 = .ok (.iload 4, 2) := by decide +kernel
theorem dL_isSenseSo_68 : decode cL_isSenseSo 68 = .ok (.ior, 1) := by decide +kernel
theorem dL_isSenseSo_69 : decode cL_isSenseSo 69 = .ok (.aload_n 0, 1) := by decide +kernel
theorem dL_isSenseSo_70 : decode cL_isSenseSo 70 = .ok (.invokevirtual 87, 3) := by decide +kernel
theorem dL_isSenseSo_73 : decode cL_isSenseSo 73 = .ok (.if_icmp .ne 20, 3) := by decide +kernel
theorem dL_isSenseSo_76 : decode cL_isSenseSo 76 = .ok (.aload_n 0, 1) := by decide +kernel
theorem dL_isSenseSo_77 : decode cL_isSenseSo 77 = .ok (.iload_n 1, 1) := by decide +kernel
theorem dL_isSenseSo_78 : decode cL_isSenseSo 78 = .ok (.invokevirtual 50, 3) := by decide +kernel
theorem dL_isSenseSo_81 : decode cL_isSenseSo 81 = .ok (.aload_n 0, 1) := by decide +kernel
theorem dL_isSenseSo_82 : decode cL_isSenseSo 82 = .ok (.iload_n 1, 1) := by decide +kernel
theorem dL_isSenseSo_83 : decode cL_isSenseSo 83 = .ok (.invokevirtual 107, 3) := by decide +kernel
theorem dL_isSenseSo_86 : decode cL_isSenseSo 86 = .ok (.if_icmp .ne 7, 3) := by decide +kernel
theorem dL_isSenseSo_89 : decode cL_isSenseSo 89 = .ok (.iconst 1, 1) := by decide +kernel
theorem dL_isSenseSo_90 : decode cL_isSenseSo 90 = .ok (.goto 4, 3) := by decide +kernel
theorem dL_isSenseSo_93 : decode cL_isSenseSo 93 = .ok (.iconst 0, 1) := by decide +kernel
theorem dL_isSenseSo_94 : decode cL_isSenseSo 94 = .ok (.istore 7, 2) := by decide +kernel
theorem dL_isSenseSo_96 : decode cL_isSenseSo 96 = .ok (.iconst 0, 1) := by decide +kernel
theorem dL_isSenseSo_97 : decode cL_isSenseSo 97 = .ok (.istore 8, 2) := by decide +kernel
theorem dL_isSenseSo_99 : decode cL_isSenseSo 99 = .ok (.iload 8, 2) := by decide +kernel
theorem dL_isSenseSo_101 : decode cL_isSenseSo 101 = .ok (.bipush 30, 2) := by decide +kernel
theorem dL_isSenseSo_103 : decode cL_isSenseSo 103 = .ok (.if_icmp .ge 108, 3) := by decide +kernel
theorem dL_isSenseSo_106 : decode cL_isSenseSo 106 = .ok (.iload_n 2, 1) := by decide +kernel
theorem dL_isSenseSo_107 : decode cL_isSenseSo 107 = .ok (.iload 8, 2) := by decide +kernel
theorem dL_isSenseSo_109 : decode cL_isSenseSo 109 = .ok (.ishr, 1) := by decide +kernel
theorem dL_isSenseSo_110 : decode cL_isSenseSo 110 = .ok (.iconst 1, 1) := by decide +kernel
theorem dL_isSenseSo_111 : decode cL_isSenseSo 111 = .ok (.iand, 1) := by decide +kernel
theorem dL_isSenseSo_112 : decode cL_isSenseSo 112 = .ok (.iconst 1, 1) := by decide +kernel
theorem dL_isSenseSo_113 : decode cL_isSenseSo 113 = .ok (.if_icmp .ne 42, 3) := by decide +kernel
theorem dL_isSenseSo_116 : decode cL_isSenseSo 116 = .ok (.iload 5, 2) := by decide +kernel
theorem dL_isSenseSo_118 : decode cL_isSenseSo 118 = .ok (.aload_n 0, 1) := by decide +kernel
theorem dL_isSenseSo_119 : decode cL_isSenseSo 119 = .ok (.iload 8, 2) := by decide +kernel
theorem dL_isSenseSo_121 : decode cL_isSenseSo 121 = .ok (.invokevirtual 98, 3) := by decide +kernel
theorem dL_isSenseSo_124 : decode cL_isSenseSo 124 = .ok (.ior, 1) := by decide +kernel
theorem dL_isSenseSo_125 : decode cL_isSenseSo 125 = .ok (.istore 5, 2) := by decide +kernel
theorem dL_isSenseSo_127 : decode cL_isSenseSo 127 = .ok (.aload_n 0, 1) := by decide +kernel
theorem dL_isSenseSo_128 : decode cL_isSenseSo 128 = .ok (.iload 8, 2) := by decide +kernel
theorem dL_isSenseSo_130 : decode cL_isSenseSo 130 = .ok (.invokevirtual 110, 3) := by decide +kernel
theorem dL_isSenseSo_133 : decode cL_isSenseSo 133 = .ok (.iconst 1, 1) := by decide +kernel
theorem dL_isSenseSo_134 : decode cL_isSenseSo 134 = .ok (.iadd, 1) := by decide +kernel
theorem dL_isSenseSo_135 : decode cL_isSenseSo 135 = .ok (.iload 6, 2) := by decide +kernel
theorem dL_isSenseSo_137 : decode cL_isSenseSo 137 = .ok (.if_icmp .ge 14, 3) := by decide +kernel
theorem dL_isSenseSo_140 : decode cL_isSenseSo 140 = .ok (.aload_n 0, 1) := by decide +kernel
theorem dL_isSenseSo_141 : decode cL_isSenseSo 141 = .ok (.iload 8, 2) := by decide +kernel
theorem dL_isSenseSo_143 : decode cL_isSenseSo 143 = .ok (.invokevirtual 110, 3) := by decide +kernel
theorem dL_isSenseSo_146 : decode cL_isSenseSo 146 = .ok (.iconst 1, 1) := by decide +kernel
theorem dL_isSenseSo_147 : decode cL_isSenseSo 147 = .ok (.iadd, 1) := by decide +kernel
theorem dL_isSenseSo_148 : decode cL_isSenseSo 148 = .ok (.goto 5, 3) := by decide +kernel
theorem dL_isSenseSo_151 : decode cL_isSenseSo 151 = .ok (.iload 6, 2) := by decide +kernel
theorem dL_isSenseSo_153 : decode cL_isSenseSo 153 = .ok (.istore 6, 2) := by decide +kernel
theorem dL_isSenseSo_155 : decode cL_isSenseSo 155 = .ok (.iload_n 3, 1) := by decide +kernel
theorem dL_isSenseSo_156 : decode cL_isSenseSo 156 = .ok (.iload 8, 2) := by decide +kernel
theorem dL_isSenseSo_158 : decode cL_isSenseSo 158 = .ok (.ishr, 1) := by decide +kernel
theorem dL_isSenseSo_159 : decode cL_isSenseSo 159 = .ok (.iconst 1, 1) := by decide +kernel
theorem dL_isSenseSo_160 : decode cL_isSenseSo 160 = .ok (.iand, 1) := by decide +kernel
theorem dL_isSenseSo_161 : decode cL_isSenseSo 161 = .ok (.iconst 1, 1) := by decide +kernel
theorem dL_isSenseSo_162 : decode cL_isSenseSo 162 = .ok (.if_icmp .ne 43, 3) := by decide +kernel
theorem dL_isSenseSo_165 : decode cL_isSenseSo 165 = .ok (.iload 7, 2) := by decide +kernel
theorem dL_isSenseSo_167 : decode cL_isSenseSo 167 = .ok (.ifCond .eq 35, 3) := by decide +kernel
theorem dL_isSenseSo_170 : decode cL_isSenseSo 170 = .ok (.aload_n 0, 1) := by decide +kernel
theorem dL_isSenseSo_171 : decode cL_isSenseSo 171 = .ok (.iload 8, 2) := by decide +kernel
theorem dL_isSenseSo_173 : decode cL_isSenseSo 173 = .ok (.invokevirtual 101, 3) := by decide +kernel
theorem dL_isSenseSo_176 : decode cL_isSenseSo 176 = .ok (.iload_n 1, 1) := by decide +kernel
theorem dL_isSenseSo_177 : decode cL_isSenseSo 177 = .ok (.ishr, 1) := by decide +kernel
theorem dL_isSenseSo_178 : decode cL_isSenseSo 178 = .ok (.iconst 1, 1) := by decide +kernel
theorem dL_isSenseSo_179 : decode cL_isSenseSo 179 = .ok (.iand, 1) := by decide +kernel
theorem dL_isSenseSo_180 : decode cL_isSenseSo 180 = .ok (.iconst 1, 1) := by decide +kernel
theorem dL_isSenseSo_181 : decode cL_isSenseSo 181 = .ok (.if_icmp .ne 21, 3) := by decide +kernel
theorem dL_isSenseSo_184 : decode cL_isSenseSo 184 = .ok (.aload_n 0, 1) := by decide +kernel
theorem dL_isSenseSo_185 : decode cL_isSenseSo 185 = .ok (.iload 8, 2) := by decide +kernel
theorem dL_isSenseSo_187 : decode cL_isSenseSo 187 = .ok (.invokevirtual 50, 3) := by decide +kernel
theorem dL_isSenseSo_190 : decode cL_isSenseSo 190 = .ok (.aload_n 0, 1) := by decide +kernel
theorem dL_isSenseSo_191 : decode cL_isSenseSo 191 = .ok (.iload_n 1, 1) := by decide +kernel
theorem dL_isSenseSo_192 : decode cL_isSenseSo 192 = .ok (.invokevirtual 50, 3) := by decide +kernel
theorem dL_isSenseSo_195 : decode cL_isSenseSo 195 = .ok (.if_icmp .lt 7, 3) := by decide +kernel
theorem dL_isSenseSo_198 : decode cL_isSenseSo 198 = .ok (.iconst 1, 1) := by decide +kernel
theorem dL_isSenseSo_199 : decode cL_isSenseSo 199 = .ok (.goto 4, 3) := by decide +kernel
theorem dL_isSenseSo_202 : decode cL_isSenseSo 202 = .ok (.iconst 0, 1) := by decide +kernel
theorem dL_isSenseSo_203 : decode cL_isSenseSo 203 = .ok (.istore 7, 2) := by decide +kernel
theorem dL_isSenseSo_205 : decode cL_isSenseSo 205 = .ok (.iinc 8 1, 3) := by decide +kernel
theorem dL_isSenseSo_208 : decode cL_isSenseSo 208 = .ok (.goto (-109), 3) := by decide +kernel
theorem dL_isSenseSo_211 : decode cL_isSenseSo 211 = .ok (.iload 7, 2) := by decide +kernel
theorem dL_isSenseSo_213 : decode cL_isSenseSo 213 = .ok (.ifCond .eq 23, 3) := by decide +kernel
theorem dL_isSenseSo_216 : decode cL_isSenseSo 216 = .ok (.iload 5, 2) := by decide +kernel
theorem dL_isSenseSo_218 : decode cL_isSenseSo 218 = .ok (.iload_n 3, 1) := by decide +kernel
theorem dL_isSenseSo_219 : decode cL_isSenseSo 219 = .ok (.if_icmp .ne 17, 3) := by decide +kernel
theorem dL_isSenseSo_222 : decode cL_isSenseSo 222 = .ok (.aload_n 0, 1) := by decide +kernel
theorem dL_isSenseSo_223 : decode cL_isSenseSo 223 = .ok (.iload_n 1, 1) := by decide +kernel
theorem dL_isSenseSo_224 : decode cL_isSenseSo 224 = .ok (.invokevirtual 110, 3) := by decide +kernel
theorem dL_isSenseSo_227 : decode cL_isSenseSo 227 = .ok (.iload 6, 2) := by decide +kernel
theorem dL_isSenseSo_229 : decode cL_isSenseSo 229 = .ok (.if_icmp .ne 7, 3) := by decide +kernel
theorem dL_isSenseSo_232 : decode cL_isSenseSo 232 = .ok (.iconst 1, 1) := by decide +kernel
theorem dL_isSenseSo_233 : decode cL_isSenseSo 233 = .ok (.goto 4, 3) := by decide +kernel
theorem dL_isSenseSo_236 : decode cL_isSenseSo 236 = .ok (.iconst 0, 1) := by decide +kernel
theorem dL_isSenseSo_237 : decode cL_isSenseSo 237 = .ok (.ireturn, 1) := by decide +kernel
theorem dL_arePairsSo_0 : decode cL_arePairsSo 0 = .ok (.aload_n 0, 1) := by decide +kernel
theorem dL_arePairsSo_1 : decode cL_arePairsSo 1 = .ok (.iload_n 1, 1) := by decide +kernel
theorem dL_arePairsSo_2 : decode cL_arePairsSo 2 = .ok (.iload_n 2, 1) := by decide +kernel
theorem dL_arePairsSo_3 : decode cL_arePairsSo 3 = .ok (.invokevirtual 113, 3) := by decide +kernel
theorem dL_arePairsSo_6 : decode cL_arePairsSo 6 = .ok (.istore_n 3, 1) := by decide +kernel
theorem dL_arePairsSo_7 : decode cL_arePairsSo 7 = .ok (.aload_n 0, 1) := by decide +kernel
theorem dL_arePairsSo_8 : decode cL_arePairsSo 8 = .ok (.iload_n 1, 1) := by decide +kernel
theorem dL_arePairsSo_9 : decode cL_arePairsSo 9 = .ok (.invokevirtual 98, 3) := by decide +kernel
theorem dL_arePairsSo_12 : decode cL_arePairsSo 12 = .ok (.iconst 1, 1) := by decide +kernel
theorem dL_arePairsSo_13 : decode cL_arePairsSo 13 = .ok (.iload_n 1, 1) := by decide +kernel
theorem dL_arePairsSo_14 : decode cL_arePairsSo 14 = .ok (.ishl, 1) := by decide +kernel
theorem dL_arePairsSo_15 : decode cL_arePairsSo 15 = .ok (.ior, 1) := by decide +kernel
theorem dL_arePairsSo_16 : decode cL_arePairsSo 16 = .ok (.aload_n 0, 1) := by decide +kernel
theorem dL_arePairsSo_17 : decode cL_arePairsSo 17 = .ok (.iload_n 2, 1) := by decide +kernel
theorem dL_arePairsSo_18 : decode cL_arePairsSo 18 = .ok (.invokevirtual 98, 3) := by decide +kernel
theorem dL_arePairsSo_21 : decode cL_arePairsSo 21 = .ok (.iconst 1, 1) := by decide +kernel
theorem dL_arePairsSo_22 : decode cL_arePairsSo 22 = .ok (.iload_n 2, 1) := by decide +kernel
theorem dL_arePairsSo_23 : decode cL_arePairsSo 23 = .ok (.ishl, 1) := by decide +kernel
theorem dL_arePairsSo_24 : decode cL_arePairsSo 24 = .ok (.ior, 1) := by decide +kernel
theorem dL_arePairsSo_25 : decode cL_arePairsSo 25 = .ok (.iand, 1) := by decide +kernel
theorem dL_arePairsSo_26 : decode cL_arePairsSo 26 = .ok (.istore 4, 2) := by decide +kernel
theorem dL_arePairsSo_28 : decode cL_arePairsSo 28 = .ok (.aload_n 0, 1) := by decide +kernel
theorem dL_arePairsSo_29 : decode cL_arePairsSo 29 = .ok (.iload_n 1, 1) := by decide +kernel
theorem dL_arePairsSo_30 : decode cL_arePairsSo 30 = .ok (.iload_n 2, 1) := by decide +kernel
theorem dL_arePairsSo_31 : decode cL_arePairsSo 31 = .ok (.invokevirtual 116, 3) := by decide +kernel
theorem dL_arePairsSo_34 : decode cL_arePairsSo 34 = .ok (.istore 5, 2) := by decide +kernel
theorem dL_arePairsSo_36 : decode cL_arePairsSo 36 = .ok (.iload_n 3, 1) := by decide +kernel
theorem dL_arePairsSo_37 : decode cL_arePairsSo 37 = .ok (.aload_n 0, 1) := by decide +kernel
theorem dL_arePairsSo_38 : decode cL_arePairsSo 38 = .ok (.iload_n 2, 1) := by decide +kernel
theorem dL_arePairsSo_39 : decode cL_arePairsSo 39 = .ok (.iload_n 1, 1) := by decide +kernel
theorem dL_arePairsSo_40 : decode cL_arePairsSo 40 = .ok (.invokevirtual 113, 3) := by decide +kernel
theorem dL_arePairsSo_43 : decode cL_arePairsSo 43 = .ok (.if_icmp .ne 86, 3) := by decide +kernel
theorem dL_arePairsSo_46 : decode cL_arePairsSo 46 = .ok (.iload 5, 2) := by decide +kernel
theorem dL_arePairsSo_48 : decode cL_arePairsSo 48 = .ok (.aload_n 0, 1) := by decide +kernel
theorem dL_arePairsSo_49 : decode cL_arePairsSo 49 = .ok (.iload_n 2, 1) := by decide +kernel
theorem dL_arePairsSo_50 : decode cL_arePairsSo 50 = .ok (.iload_n 1, 1) := by decide +kernel
theorem dL_arePairsSo_51 : decode cL_arePairsSo 51 = .ok (.invokevirtual 116, 3) := by decide +kernel
theorem dL_arePairsSo_54 : decode cL_arePairsSo 54 = .ok (.if_icmp .ne 75, 3) := by decide +kernel
theorem dL_arePairsSo_57 : decode cL_arePairsSo 57 = .ok (.iload_n 3, 1) := by decide +kernel
theorem dL_arePairsSo_58 : decode cL_arePairsSo 58 = .ok (.ifCond .ge 7, 3) := by decide +kernel
theorem dL_arePairsSo_61 : decode cL_arePairsSo 61 = .ok (.iconst 1, 1) := by decide +kernel
theorem dL_arePairsSo_62 : decode cL_arePairsSo 62 = .ok (.goto 4, 3) := by decide +kernel
theorem dL_arePairsSo_65 : decode cL_arePairsSo 65 = .ok (.iconst 0, 1) := by decide +kernel
theorem dL_arePairsSo_66 : decode cL_arePairsSo 66 = .ok (.iload 4, 2) := by decide +kernel
theorem dL_arePairsSo_68 : decode cL_arePairsSo 68 = .ok (.ifCond .ne 7, 3) := by decide +kernel
theorem dL_arePairsSo_71 : decode cL_arePairsSo 71 = .ok (.iconst 1, 1) := by decide +kernel
theorem dL_arePairsSo_72 : decode cL_arePairsSo 72 = .ok (.goto 4, 3) := by decide +kernel
theorem dL_arePairsSo_75 : decode cL_arePairsSo 75 = .ok (.iconst 0, 1) := by decide +kernel
theorem dL_arePairsSo_76 : decode cL_arePairsSo 76 = .ok (.if_icmp .ne 53, 3) := by decide +kernel
theorem dL_arePairsSo_79 : decode cL_arePairsSo 79 = .ok (.iload 5, 2) := by decide +kernel
theorem dL_arePairsSo_81 : decode cL_arePairsSo 81 = .ok (.ifCond .ge 7, 3) := by decide +kernel
theorem dL_arePairsSo_84 : decode cL_arePairsSo 84 = .ok (.iconst 1, 1) := by decide +kernel
theorem dL_arePairsSo_85 : decode cL_arePairsSo 85 = .ok (.goto 4, 3) := by decide +kernel
theorem dL_arePairsSo_88 : decode cL_arePairsSo 88 = .ok (.iconst 0, 1) := by decide +kernel
theorem dL_arePairsSo_89 : decode cL_arePairsSo 89 = .ok (.iload 4, 2) := by decide +kernel
theorem dL_arePairsSo_91 : decode cL_arePairsSo 91 = .ok (.ifCond .ne 7, 3) := by decide +kernel
theorem dL_arePairsSo_94 : decode cL_arePairsSo 94 = .ok (.iconst 1, 1) := by decide +kernel
theorem dL_arePairsSo_95 : decode cL_arePairsSo 95 = .ok (.goto 4, 3) := by decide +kernel
theorem dL_arePairsSo_98 : decode cL_arePairsSo 98 = .ok (.iconst 0, 1) := by decide +kernel
theorem dL_arePairsSo_99 : decode cL_arePairsSo 99 = .ok (.if_icmp .ne 30, 3) := by decide +kernel
theorem dL_arePairsSo_102 : decode cL_arePairsSo 102 = .ok (.iload 5, 2) := by decide +kernel
theorem dL_arePairsSo_104 : decode cL_arePairsSo 104 = .ok (.ifCond .ne 7, 3) := by decide +kernel
theorem dL_arePairsSo_107 : decode cL_arePairsSo 107 = .ok (.iconst 1, 1) := by decide +kernel
theorem dL_arePairsSo_108 : decode cL_arePairsSo 108 = .ok (.goto 4, 3) := by decide +kernel
theorem dL_arePairsSo_111 : decode cL_arePairsSo 111 = .ok (.iconst 0, 1) := by decide +kernel
theorem dL_arePairsSo_112 : decode cL_arePairsSo 112 = .ok (.iload_n 1, 1) := by decide +kernel
theorem dL_arePairsSo_113 : decode cL_arePairsSo 113 = .ok (.iload_n 2, 1) := by decide +kernel
theorem dL_arePairsSo_114 : decode cL_arePairsSo 114 = .ok (.if_icmp .ne 7, 3) := by decide +kernel
theorem dL_arePairsSo_117 : decode cL_arePairsSo 117 = .ok (.iconst 1, 1) := by decide +kernel
theorem dL_arePairsSo_118 : decode cL_arePairsSo 118 = .ok (.goto 4, 3) := by decide +kernel
theorem dL_arePairsSo_121 : decode cL_arePairsSo 121 = .ok (.iconst 0, 1) := by decide +kernel
theorem dL_arePairsSo_122 : decode cL_arePairsSo 122 = .ok (.if_icmp .ne 7, 3) := by decide +kernel
theorem dL_arePairsSo_125 : decode cL_arePairsSo 125 = .ok (.iconst 1, 1) := by decide +kernel
theorem dL_arePairsSo_126 : decode cL_arePairsSo 126 = .ok (.goto 4, 3) := by decide +kernel
theorem dL_arePairsSo_129 : decode cL_arePairsSo 129 = .ok (.iconst 0, 1) := by decide +kernel
theorem dL_arePairsSo_130 : decode cL_arePairsSo 130 = .ok (.istore 6, 2) := by decide +kernel
theorem dL_arePairsSo_132 : decode cL_arePairsSo 132 = .ok (.iconst 0, 1) := by decide +kernel
theorem dL_arePairsSo_133 : decode cL_arePairsSo 133 = .ok (.istore 7, 2) := by decide +kernel
theorem dL_arePairsSo_135 : decode cL_arePairsSo 135 = .ok (.iload 7, 2) := by decide +kernel
theorem dL_arePairsSo_137 : decode cL_arePairsSo 137 = .ok (.bipush 30, 2) := by decide +kernel
theorem dL_arePairsSo_139 : decode cL_arePairsSo 139 = .ok (.if_icmp .ge 49, 3) := by decide +kernel
theorem dL_arePairsSo_142 : decode cL_arePairsSo 142 = .ok (.iload_n 3, 1) := by decide +kernel
theorem dL_arePairsSo_143 : decode cL_arePairsSo 143 = .ok (.ifCond .lt 45, 3) := by decide +kernel
theorem dL_arePairsSo_146 : decode cL_arePairsSo 146 = .ok (.iload 6, 2) := by decide +kernel
theorem dL_arePairsSo_148 : decode cL_arePairsSo 148 = .ok (.ifCond .eq 31, 3) := by decide +kernel
theorem dL_arePairsSo_151 : decode cL_arePairsSo 151 = .ok (.iload 4, 2) := by decide +kernel
theorem dL_arePairsSo_153 : decode cL_arePairsSo 153 = .ok (.iload 7, 2) := by decide +kernel
theorem dL_arePairsSo_155 : decode cL_arePairsSo 155 = .ok (.ishr, 1) := by decide +kernel
theorem dL_arePairsSo_156 : decode cL_arePairsSo 156 = .ok (.iconst 1, 1) := by decide +kernel
theorem dL_arePairsSo_157 : decode cL_arePairsSo 157 = .ok (.iand, 1) := by decide +kernel
theorem dL_arePairsSo_158 : decode cL_arePairsSo 158 = .ok (.ifCond .eq 17, 3) := by decide +kernel
theorem dL_arePairsSo_161 : decode cL_arePairsSo 161 = .ok (.aload_n 0, 1) := by decide +kernel
theorem dL_arePairsSo_162 : decode cL_arePairsSo 162 = .ok (.iload 7, 2) := by decide +kernel
theorem dL_arePairsSo_164 : decode cL_arePairsSo 164 = .ok (.invokevirtual 50, 3) := by decide +kernel
theorem dL_arePairsSo_167 : decode cL_arePairsSo 167 = .ok (.aload_n 0, 1) := by decide +kernel
theorem dL_arePairsSo_168 : decode cL_arePairsSo 168 = .ok (.iload_n 3, 1) := by decide +kernel
theorem dL_arePairsSo_169 : decode cL_arePairsSo 169 = .ok (.invokevirtual 50, 3) := by decide +kernel
theorem dL_arePairsSo_172 : decode cL_arePairsSo 172 = .ok (.if_icmp .lt 7, 3) := by decide +kernel
theorem dL_arePairsSo_175 : decode cL_arePairsSo 175 = .ok (.iconst 1, 1) := by decide +kernel
theorem dL_arePairsSo_176 : decode cL_arePairsSo 176 = .ok (.goto 4, 3) := by decide +kernel
theorem dL_arePairsSo_179 : decode cL_arePairsSo 179 = .ok (.iconst 0, 1) := by decide +kernel
theorem dL_arePairsSo_180 : decode cL_arePairsSo 180 = .ok (.istore 6, 2) := by decide +kernel
theorem dL_arePairsSo_182 : decode cL_arePairsSo 182 = .ok (.iinc 7 1, 3) := by decide +kernel
theorem dL_arePairsSo_185 : decode cL_arePairsSo 185 = .ok (.goto (-50), 3) := by decide +kernel
theorem dL_arePairsSo_188 : decode cL_arePairsSo 188 = .ok (.iconst 0, 1) := by decide +kernel
theorem dL_arePairsSo_189 : decode cL_arePairsSo 189 = .ok (.istore 7, 2) := by decide +kernel
theorem dL_arePairsSo_191 : decode cL_arePairsSo 191 = .ok (.iload 7, 2) := by decide +kernel
theorem dL_arePairsSo_193 : decode cL_arePairsSo 193 = .ok (.iconst 3, 1) := by decide +kernel
theorem dL_arePairsSo_194 : decode cL_arePairsSo 194 = .ok (.if_icmp .ge 66, 3) := by decide +kernel
theorem dL_arePairsSo_197 : decode cL_arePairsSo 197 = .ok (.aload_n 0, 1) := by decide +kernel
theorem dL_arePairsSo_198 : decode cL_arePairsSo 198 = .ok (.iload_n 1, 1) := by decide +kernel
theorem dL_arePairsSo_199 : decode cL_arePairsSo 199 = .ok (.iload_n 2, 1) := by decide +kernel
theorem dL_arePairsSo_200 : decode cL_arePairsSo 200 = .ok (.iload 7, 2) := by decide +kernel
theorem dL_arePairsSo_202 : decode cL_arePairsSo 202 = .ok (.invokevirtual 119, 3) := by decide +kernel
theorem dL_arePairsSo_205 : decode cL_arePairsSo 205 = .ok (.istore 8, 2) := by decide +kernel
theorem dL_arePairsSo_207 : decode cL_arePairsSo 207 = .ok (.iload 6, 2) := by decide +kernel
theorem dL_arePairsSo_209 : decode cL_arePairsSo 209 = .ok (.ifCond .eq 42, 3) := by decide +kernel
theorem dL_arePairsSo_212 : decode cL_arePairsSo 212 = .ok (.iload 8, 2) := by decide +kernel
theorem dL_arePairsSo_214 : decode cL_arePairsSo 214 = .ok (.ifCond .lt 37, 3) := by decide +kernel
theorem dL_arePairsSo_217 : decode cL_arePairsSo 217 = .ok (.iload 8, 2) := by decide +kernel
theorem dL_arePairsSo_219 : decode cL_arePairsSo 219 = .ok (.sipush 10000, 3) := by decide +kernel
theorem dL_arePairsSo_222 : decode cL_arePairsSo 222 = .ok (.if_icmp .gt 29, 3) := by decide +kernel
theorem dL_arePairsSo_225 : decode cL_arePairsSo 225 = .ok (.iload 8, 2) := by decide +kernel
theorem dL_arePairsSo_227 : decode cL_arePairsSo 227 = .ok (.aload_n 0, 1) := by decide +kernel
theorem dL_arePairsSo_228 : decode cL_arePairsSo 228 = .ok (.iload_n 2, 1) := by decide +kernel
theorem dL_arePairsSo_229 : decode cL_arePairsSo 229 = .ok (.iload_n 1, 1) := by decide +kernel
theorem dL_arePairsSo_230 : decode cL_arePairsSo 230 = .ok (.iload 7, 2) := by decide +kernel
theorem dL_arePairsSo_232 : decode cL_arePairsSo 232 = .ok (.invokevirtual 119, 3) := by decide +kernel
theorem dL_arePairsSo_235 : decode cL_arePairsSo 235 = .ok (.if_icmp .ne 16, 3) := by decide +kernel
theorem dL_arePairsSo_238 : decode cL_arePairsSo 238 = .ok (.iload_n 3, 1) := by decide +kernel
theorem dL_arePairsSo_239 : decode cL_arePairsSo 239 = .ok (.ifCond .ge 8, 3) := by decide +kernel
theorem dL_arePairsSo_242 : decode cL_arePairsSo 242 = .ok (.iload 8, 2) := by decide +kernel
theorem dL_arePairsSo_244 : decode cL_arePairsSo 244 = .ok (.ifCond .ne 7, 3) := by decide +kernel
theorem dL_arePairsSo_247 : decode cL_arePairsSo 247 = .ok (.iconst 1, 1) := by decide +kernel
theorem dL_arePairsSo_248 : decode cL_arePairsSo 248 = .ok (.goto 4, 3) := by decide +kernel
theorem dL_arePairsSo_251 : decode cL_arePairsSo 251 = .ok (.iconst 0, 1) := by decide +kernel
theorem dL_arePairsSo_252 : decode cL_arePairsSo 252 = .ok (.istore 6, 2) := by decide +kernel
theorem dL_arePairsSo_254 : decode cL_arePairsSo 254 = .ok (.iinc 7 1, 3) := by decide +kernel
theorem dL_arePairsSo_257 : decode cL_arePairsSo 257 = .ok (.goto (-66), 3) := by decide +kernel
theorem dL_arePairsSo_260 : decode cL_arePairsSo 260 = .ok (.iload 6, 2) := by decide +kernel
theorem dL_arePairsSo_262 : decode cL_arePairsSo 262 = .ok (.ifCond .eq 39, 3) := by decide +kernel
theorem dL_arePairsSo_265 : decode cL_arePairsSo 265 = .ok (.iload_n 3, 1) := by decide +kernel
theorem dL_arePairsSo_266 : decode cL_arePairsSo 266 = .ok (.ifCond .lt 31, 3) := by decide +kernel
theorem dL_arePairsSo_269 : decode cL_arePairsSo 269 = .ok (.iload 4, 2) := by decide +kernel
theorem dL_arePairsSo_271 : decode cL_arePairsSo 271 = .ok (.iload_n 3, 1) := by decide +kernel
theorem dL_arePairsSo_272 : decode cL_arePairsSo 272 = .ok (.ishr, 1) := by decide +kernel
theorem dL_arePairsSo_273 : decode cL_arePairsSo 273 = .ok (.iconst 1, 1) := by decide +kernel
theorem dL_arePairsSo_274 : decode cL_arePairsSo 274 = .ok (.iand, 1) := by decide +kernel
theorem dL_arePairsSo_275 : decode cL_arePairsSo 275 = .ok (.iconst 1, 1) := by decide +kernel
theorem dL_arePairsSo_276 : decode cL_arePairsSo 276 = .ok (.if_icmp .ne 25, 3) := by decide +kernel
theorem dL_arePairsSo_279 : decode cL_arePairsSo 279 = .ok (.aload_n 0, 1) := by decide +kernel
theorem dL_arePairsSo_280 : decode cL_arePairsSo 280 = .ok (.iload_n 1, 1) := by decide +kernel
theorem dL_arePairsSo_281 : decode cL_arePairsSo 281 = .ok (.iload_n 2, 1) := by decide +kernel
theorem dL_arePairsSo_282 : decode cL_arePairsSo 282 = .ok (.iconst 0, 1) := by decide +kernel
theorem dL_arePairsSo_283 : decode cL_arePairsSo 283 = .ok (.invokevirtual 119, 3) := by decide +kernel
theorem dL_arePairsSo_286 : decode cL_arePairsSo 286 = .ok (.sipush 10000, 3) := by decide +kernel
theorem dL_arePairsSo_289 : decode cL_arePairsSo 289 = .ok (.iconst 1, 1) := by decide +kernel
theorem dL_arePairsSo_290 : decode cL_arePairsSo 290 = .ok (.iload 5, 2) := by decide +kernel
theorem dL_arePairsSo_292 : decode cL_arePairsSo 292 = .ok (.iadd, 1) := by decide +kernel
theorem dL_arePairsSo_293 : decode cL_arePairsSo 293 = .ok (.idiv, 1) := by decide +kernel
theorem dL_arePairsSo_294 : decode cL_arePairsSo 294 = .ok (.if_icmp .ne 7, 3) := by decide +kernel
theorem dL_arePairsSo_297 : decode cL_arePairsSo 297 = .ok (.iconst 1, 1) := by decide +kernel
theorem dL_arePairsSo_298 : decode cL_arePairsSo 298 = .ok (.goto 4, 3) := by decide +kernel
theorem dL_arePairsSo_301 : decode cL_arePairsSo 301 = .ok (.iconst 0, 1) := by decide +kernel
theorem dL_arePairsSo_302 : decode cL_arePairsSo 302 = .ok (.ireturn, 1) := by decide +kernel
theorem dL_areChoicesSo_0 : decode cL_areChoicesSo 0 = .ok (.iconst 0, 1) := by decide +kernel
theorem dL_areChoicesSo_1 : decode cL_areChoicesSo 1 = .ok (.istore_n 3, 1) := by decide +kernel
theorem dL_areChoicesSo_2 : decode cL_areChoicesSo 2 = .ok (.aload_n 1, 1) := by decide +kernel
theorem dL_areChoicesSo_3 : decode cL_areChoicesSo 3 = .ok (.iconst 0, 1) := by decide +kernel
theorem dL_areChoicesSo_4 : decode cL_areChoicesSo 4 = .ok (.aload_n 0, 1) := by decide +kernel
theorem dL_areChoicesSo_5 : decode cL_areChoicesSo 5 = .ok (.iconst 0, 1) := by decide +kernel
theorem dL_areChoicesSo_6 : decode cL_areChoicesSo 6 = .ok (.iload_n 2, 1) := by decide +kernel
theorem dL_areChoicesSo_7 : decode cL_areChoicesSo 7 = .ok (.invokestatic 123, 3) := by decide +kernel
theorem dL_areChoicesSo_10 : decode cL_areChoicesSo 10 = .ok (.iastore, 1) := by decide +kernel
theorem dL_areChoicesSo_11 : decode cL_areChoicesSo 11 = .ok (.aload_n 1, 1) := by decide +kernel
theorem dL_areChoicesSo_12 : decode cL_areChoicesSo 12 = .ok (.iload_n 3, 1) := by decide +kernel
theorem dL_areChoicesSo_13 : decode cL_areChoicesSo 13 = .ok (.iaload, 1) := by decide +kernel
theorem dL_areChoicesSo_14 : decode cL_areChoicesSo 14 = .ok (.ifCond .lt 18, 3) := by decide +kernel
theorem dL_areChoicesSo_17 : decode cL_areChoicesSo 17 = .ok (.iinc 3 1, 3) := by decide +kernel
theorem dL_areChoicesSo_20 : decode cL_areChoicesSo 20 = .ok (.aload_n 1, 1) := by decide +kernel
theorem dL_areChoicesSo_21 : decode cL_areChoicesSo 21 = .ok (.iload_n 3, 1) := by decide +kernel
theorem dL_areChoicesSo_22 : decode cL_areChoicesSo 22 = .ok (.aload_n 0, 1) := by decide +kernel
theorem dL_areChoicesSo_23 : decode cL_areChoicesSo 23 = .ok (.iload_n 3, 1) := by decide +kernel
theorem dL_areChoicesSo_24 : decode cL_areChoicesSo 24 = .ok (.iload_n 2, 1) := by decide +kernel
theorem dL_areChoicesSo_25 : decode cL_areChoicesSo 25 = .ok (.invokestatic 123, 3) := by decide +kernel
theorem dL_areChoicesSo_28 : decode cL_areChoicesSo 28 = .ok (.iastore, 1) := by decide +kernel
theorem dL_areChoicesSo_29 : decode cL_areChoicesSo 29 = .ok (.goto (-18), 3) := by decide +kernel
theorem dL_areChoicesSo_32 : decode cL_areChoicesSo 32 = .ok (.iconst 0, 1) := by decide +kernel
theorem dL_areChoicesSo_33 : decode cL_areChoicesSo 33 = .ok (.istore 4, 2) := by decide +kernel
theorem dL_areChoicesSo_35 : decode cL_areChoicesSo 35 = .ok (.iconst 0, 1) := by decide +kernel
theorem dL_areChoicesSo_36 : decode cL_areChoicesSo 36 = .ok (.istore 5, 2) := by decide +kernel
theorem dL_areChoicesSo_38 : decode cL_areChoicesSo 38 = .ok (.iload 5, 2) := by decide +kernel
theorem dL_areChoicesSo_40 : decode cL_areChoicesSo 40 = .ok (.iload_n 3, 1) := by decide +kernel
theorem dL_areChoicesSo_41 : decode cL_areChoicesSo 41 = .ok (.if_icmp .ge 43, 3) := by decide +kernel
theorem dL_areChoicesSo_44 : decode cL_areChoicesSo 44 = .ok (.iconst 0, 1) := by decide +kernel
theorem dL_areChoicesSo_45 : decode cL_areChoicesSo 45 = .ok (.istore 6, 2) := by decide +kernel
theorem dL_areChoicesSo_47 : decode cL_areChoicesSo 47 = .ok (.iload 6, 2) := by decide +kernel
theorem dL_areChoicesSo_49 : decode cL_areChoicesSo 49 = .ok (.iload 5, 2) := by decide +kernel
theorem dL_areChoicesSo_51 : decode cL_areChoicesSo 51 = .ok (.if_icmp .ge 27, 3) := by decide +kernel
theorem dL_areChoicesSo_54 : decode cL_areChoicesSo 54 = .ok (.iload 4, 2) := by decide +kernel
theorem dL_areChoicesSo_56 : decode cL_areChoicesSo 56 = .ok (.aload_n 0, 1) := by decide +kernel
theorem dL_areChoicesSo_57 : decode cL_areChoicesSo 57 = .ok (.aload_n 1, 1) := by decide +kernel
theorem dL_areChoicesSo_58 : decode cL_areChoicesSo 58 = .ok (.iload 6, 2) := by decide +kernel
theorem dL_areChoicesSo_60 : decode cL_areChoicesSo 60 = .ok (.iaload, 1) := by decide +kernel
theorem dL_areChoicesSo_61 : decode cL_areChoicesSo 61 = .ok (.aload_n 1, 1) := by decide +kernel
theorem dL_areChoicesSo_62 : decode cL_areChoicesSo 62 = .ok (.iload 5, 2) := by decide +kernel
theorem dL_areChoicesSo_64 : decode cL_areChoicesSo 64 = .ok (.iaload, 1) := by decide +kernel
theorem dL_areChoicesSo_65 : decode cL_areChoicesSo 65 = .ok (.iload_n 2, 1) := by decide +kernel
theorem dL_areChoicesSo_66 : decode cL_areChoicesSo 66 = .ok (.invokevirtual 119, 3) := by decide +kernel
theorem dL_areChoicesSo_69 : decode cL_areChoicesSo 69 = .ok (.iadd, 1) := by decide +kernel
theorem dL_areChoicesSo_70 : decode cL_areChoicesSo 70 = .ok (.istore 4, 2) := by decide +kernel
theorem dL_areChoicesSo_72 : decode cL_areChoicesSo 72 = .ok (.iinc 6 1, 3) := by decide +kernel
theorem dL_areChoicesSo_75 : decode cL_areChoicesSo 75 = .ok (.goto (-28), 3) := by decide +kernel
theorem dL_areChoicesSo_78 : decode cL_areChoicesSo 78 = .ok (.iinc 5 1, 3) := by decide +kernel
theorem dL_areChoicesSo_81 : decode cL_areChoicesSo 81 = .ok (.goto (-43), 3) := by decide +kernel
theorem dL_areChoicesSo_84 : decode cL_areChoicesSo 84 = .ok (.aload_n 0, 1) := by decide +kernel
theorem dL_areChoicesSo_85 : decode cL_areChoicesSo 85 = .ok (.iload_n 2, 1) := by decide +kernel
theorem dL_areChoicesSo_86 : decode cL_areChoicesSo 86 = .ok (.invokevirtual 125, 3) := by decide +kernel
theorem dL_areChoicesSo_89 : decode cL_areChoicesSo 89 = .ok (.iload 4, 2) := by decide +kernel
theorem dL_areChoicesSo_91 : decode cL_areChoicesSo 91 = .ok (.if_icmp .ne 62, 3) := by decide +kernel
theorem dL_areChoicesSo_94 : decode cL_areChoicesSo 94 = .ok (.aload_n 0, 1) := by decide +kernel
theorem dL_areChoicesSo_95 : decode cL_areChoicesSo 95 = .ok (.iload_n 2, 1) := by decide +kernel
theorem dL_areChoicesSo_96 : decode cL_areChoicesSo 96 = .ok (.invokevirtual 128, 3) := by decide +kernel
theorem dL_areChoicesSo_99 : decode cL_areChoicesSo 99 = .ok (.iload 4, 2) := by decide +kernel
theorem dL_areChoicesSo_101 : decode cL_areChoicesSo 101 = .ok (.if_icmp .ne 52, 3) := by decide +kernel
theorem dL_areChoicesSo_104 : decode cL_areChoicesSo 104 = .ok (.iload_n 3, 1) := by decide +kernel
theorem dL_areChoicesSo_105 : decode cL_areChoicesSo 105 = .ok (.bipush 6, 2) := by decide +kernel
theorem dL_areChoicesSo_107 : decode cL_areChoicesSo 107 = .ok (.if_icmp .gt 46, 3) := by decide +kernel
theorem dL_areChoicesSo_110 : decode cL_areChoicesSo 110 = .ok (.iload_n 3, 1) := by decide +kernel
theorem dL_areChoicesSo_111 : decode cL_areChoicesSo 111 = .ok (.ifCond .gt 11, 3) := by decide +kernel
theorem dL_areChoicesSo_114 : decode cL_areChoicesSo 114 = .ok (.aload_n 0, 1) := by decide +kernel
theorem dL_areChoicesSo_115 : decode cL_areChoicesSo 115 = .ok (.invokevirtual 90, 3) := by decide +kernel
theorem dL_areChoicesSo_118 : decode cL_areChoicesSo 118 = .ok (.iconst 1, 1) := by decide +kernel
theorem dL_areChoicesSo_119 : decode cL_areChoicesSo 119 = .ok (.if_icmp .ne 34, 3) := by decide +kernel
theorem dL_areChoicesSo_122 : decode cL_areChoicesSo 122 = .ok (.aload_n 0, 1) := by decide +kernel
theorem dL_areChoicesSo_123 : decode cL_areChoicesSo 123 = .ok (.invokevirtual 90, 3) := by decide +kernel
theorem dL_areChoicesSo_126 : decode cL_areChoicesSo 126 = .ok (.iconst 1, 1) := by decide +kernel
theorem dL_areChoicesSo_127 : decode cL_areChoicesSo 127 = .ok (.if_icmp .lt 26, 3) := by decide +kernel
theorem dL_areChoicesSo_130 : decode cL_areChoicesSo 130 = .ok (.aload_n 0, 1) := by decide +kernel
theorem dL_areChoicesSo_131 : decode cL_areChoicesSo 131 = .ok (.iconst 0, 1) := by decide +kernel
theorem dL_areChoicesSo_132 : decode cL_areChoicesSo 132 = .ok (.iconst 3, 1) := by decide +kernel
theorem dL_areChoicesSo_133 : decode cL_areChoicesSo 133 = .ok (.invokestatic 123, 3) := by decide +kernel
theorem dL_areChoicesSo_136 : decode cL_areChoicesSo 136 = .ok (.iload_n 3, 1) := by decide +kernel
theorem dL_areChoicesSo_137 : decode cL_areChoicesSo 137 = .ok (.ifCond .ne 7, 3) := by decide +kernel
theorem dL_areChoicesSo_140 : decode cL_areChoicesSo 140 = .ok (.iconst (-1), 1) := by decide +kernel
theorem dL_areChoicesSo_141 : decode cL_areChoicesSo 141 = .ok (.goto 5, 3) := by decide +kernel
theorem dL_areChoicesSo_144 : decode cL_areChoicesSo 144 = .ok (.bipush (-2), 2) := by decide +kernel
theorem dL_areChoicesSo_146 : decode cL_areChoicesSo 146 = .ok (.if_icmp .ne 7, 3) := by decide +kernel
theorem dL_areChoicesSo_149 : decode cL_areChoicesSo 149 = .ok (.iconst 1, 1) := by decide +kernel
theorem dL_areChoicesSo_150 : decode cL_areChoicesSo 150 = .ok (.goto 4, 3) := by decide +kernel
theorem dL_areChoicesSo_153 : decode cL_areChoicesSo 153 = .ok (.iconst 0, 1) := by decide +kernel
theorem dL_areChoicesSo_154 : decode cL_areChoicesSo 154 = .ok (.ireturn, 1) := by decide +kernel
