theorem dL_cell_0 : decode cL_cell 0 = .ok (.iload_n 1, 1) := by decide +kernel
theorem dL_cell_1 : decode cL_cell 1 = .ok (.aload_n 0, 1) := by decide +kernel
theorem dL_cell_2 : decode cL_cell 2 = .ok (.arraylength, 1) := by decide +kernel
theorem dL_cell_3 : decode cL_cell 3 = .ok (.if_icmp .ge 9, 3) := by decide +kernel
theorem dL_cell_6 : decode cL_cell 6 = .ok (.aload_n 0, 1) := by decide +kernel
theorem dL_cell_7 : decode cL_cell 7 = .ok (.iload_n 1, 1) := by decide +kernel
theorem dL_cell_8 : decode cL_cell 8 = .ok (.iaload, 1) := by decide +kernel
theorem dL_cell_9 : decode cL_cell 9 = .ok (.goto 18, 3) := by decide +kernel
theorem dL_cell_12 : decode cL_cell 12 = .ok (.sipush 7919, 3) := by decide +kernel
theorem dL_cell_15 : decode cL_cell 15 = .ok (.iload_n 1, 1) := by decide +kernel
theorem dL_cell_16 : decode cL_cell 16 = .ok (.sipush 443, 3) := by decide +kernel
theorem dL_cell_19 : decode cL_cell 19 = .ok (.iadd, 1) := by decide +kernel
theorem dL_cell_20 : decode cL_cell 20 = .ok (.imul, 1) := by decide +kernel
theorem dL_cell_21 : decode cL_cell 21 = .ok (.iload_n 1, 1) := by decide +kernel
theorem dL_cell_22 : decode cL_cell 22 = .ok (.sipush 1439, 3) := by decide +kernel
theorem dL_cell_25 : decode cL_cell 25 = .ok (.iadd, 1) := by decide +kernel
theorem dL_cell_26 : decode cL_cell 26 = .ok (.imul, 1) := by decide +kernel
theorem dL_cell_27 : decode cL_cell 27 = .ok (.ireturn, 1) := by decide +kernel
theorem dL_low_0 : decode cL_low 0 = .ok (.iload_n 0, 1) := by decide +kernel
theorem dL_low_1 : decode cL_low 1 = .ok (.ldc 7, 2) := by decide +kernel
theorem dL_low_3 : decode cL_low 3 = .ok (.iand, 1) := by decide +kernel
theorem dL_low_4 : decode cL_low 4 = .ok (.iload_n 1, 1) := by decide +kernel
theorem dL_low_5 : decode cL_low 5 = .ok (.irem, 1) := by decide +kernel
theorem dL_low_6 : decode cL_low 6 = .ok (.ireturn, 1) := by decide +kernel
theorem dL_addSense_0 : decode cL_addSense 0 = .ok (.aload_n 0, 1) := by decide +kernel
theorem dL_addSense_1 : decode cL_addSense 1 = .ok (.invokevirtual 8, 3) := by decide +kernel
theorem dL_addSense_4 : decode cL_addSense 4 = .ok (.ireturn, 1) := by decide +kernel
theorem dL_addSense_5 : decode cL_addSense 5 = .ok (.astore_n 1, 1) := by decide +kernel
theorem dL_addSense_6 : decode cL_addSense 6 = .ok (.ldc 16, 2) := by decide +kernel
theorem dL_addSense_8 : decode cL_addSense 8 = .ok (.ireturn, 1) := by decide +kernel
theorem dL_link_0 : decode cL_link 0 = .ok (.aload_n 0, 1) := by decide +kernel
theorem dL_link_1 : decode cL_link 1 = .ok (.iload_n 1, 1) := by decide +kernel
theorem dL_link_2 : decode cL_link 2 = .ok (.iload_n 2, 1) := by decide +kernel
theorem dL_link_3 : decode cL_link 3 = .ok (.invokevirtual 17, 3) := by decide +kernel
theorem dL_link_6 : decode cL_link 6 = .ok (.ireturn, 1) := by decide +kernel
theorem dL_link_7 : decode cL_link 7 = .ok (.astore_n 3, 1) := by decide +kernel
theorem dL_link_8 : decode cL_link 8 = .ok (.ldc 16, 2) := by decide +kernel
theorem dL_link_10 : decode cL_link 10 = .ok (.ireturn, 1) := by decide +kernel
theorem dL_link_11 : decode cL_link 11 = .ok (.astore_n 3, 1) := by decide +kernel
theorem dL_link_12 : decode cL_link 12 = .ok (.ldc 16, 2) := by decide +kernel
theorem dL_link_14 : decode cL_link 14 = .ok (.ireturn, 1) := by decide +kernel
theorem dL_unlink_0 : decode cL_unlink 0 = .ok (.aload_n 0, 1) := by decide +kernel
theorem dL_unlink_1 : decode cL_unlink 1 = .ok (.iload_n 1, 1) := by decide +kernel
theorem dL_unlink_2 : decode cL_unlink 2 = .ok (.iload_n 2, 1) := by decide +kernel
theorem dL_unlink_3 : decode cL_unlink 3 = .ok (.invokevirtual 23, 3) := by decide +kernel
theorem dL_unlink_6 : decode cL_unlink 6 = .ok (.ireturn, 1) := by decide +kernel
theorem dL_unlink_7 : decode cL_unlink 7 = .ok (.astore_n 3, 1) := by decide +kernel
theorem dL_unlink_8 : decode cL_unlink 8 = .ok (.ldc 16, 2) := by decide +kernel
theorem dL_unlink_10 : decode cL_unlink 10 = .ok (.ireturn, 1) := by decide +kernel
theorem dL_unlink_11 : decode cL_unlink 11 = .ok (.astore_n 3, 1) := by decide +kernel
theorem dL_unlink_12 : decode cL_unlink 12 = .ok (.ldc 16, 2) := by decide +kernel
theorem dL_unlink_14 : decode cL_unlink 14 = .ok (.ireturn, 1) := by decide +kernel
theorem dL_remove_0 : decode cL_remove 0 = .ok (.aload_n 0, 1) := by decide +kernel
theorem dL_remove_1 : decode cL_remove 1 = .ok (.iload_n 1, 1) := by decide +kernel
theorem dL_remove_2 : decode cL_remove 2 = .ok (.invokevirtual 26, 3) := by decide +kernel
theorem dL_remove_5 : decode cL_remove 5 = .ok (.ireturn, 1) := by decide +kernel
theorem dL_remove_6 : decode cL_remove 6 = .ok (.astore_n 2, 1) := by decide +kernel
theorem dL_remove_7 : decode cL_remove 7 = .ok (.ldc 16, 2) := by decide +kernel
theorem dL_remove_9 : decode cL_remove 9 = .ok (.ireturn, 1) := by decide +kernel
theorem dL_remove_10 : decode cL_remove 10 = .ok (.astore_n 2, 1) := by decide +kernel
theorem dL_remove_11 : decode cL_remove 11 = .ok (.ldc 16, 2) := by decide +kernel
theorem dL_remove_13 : decode cL_remove 13 = .ok (.ireturn, 1) := by decide +kernel
theorem dL_setCount_0 : decode cL_setCount 0 = .ok (.aload_n 0, 1) := by decide +kernel
theorem dL_setCount_1 : decode cL_setCount 1 = .ok (.iload_n 1, 1) := by decide +kernel
theorem dL_setCount_2 : decode cL_setCount 2 = .ok (.iload_n 2, 1) := by decide +kernel
theorem dL_setCount_3 : decode cL_setCount 3 = .ok (.invokevirtual 30, 3) := by decide +kernel
theorem dL_setCount_6 : decode cL_setCount 6 = .ok (.ireturn, 1) := by decide +kernel
theorem dL_setCount_7 : decode cL_setCount 7 = .ok (.astore_n 3, 1) := by decide +kernel
theorem dL_setCount_8 : decode cL_setCount 8 = .ok (.ldc 16, 2) := by decide +kernel
theorem dL_setCount_10 : decode cL_setCount 10 = .ok (.ireturn, 1) := by decide +kernel
theorem dL_setCount_11 : decode cL_setCount 11 = .ok (.astore_n 3, 1) := by decide +kernel
theorem dL_setCount_12 : decode cL_setCount 12 = .ok (.ldc 16, 2) := by decide +kernel
theorem dL_setCount_14 : decode cL_setCount 14 = .ok (.ireturn, 1) := by decide +kernel
theorem dL_addWord_0 : decode cL_addWord 0 = .ok (.aload_n 0, 1) := by decide +kernel
theorem dL_addWord_1 : decode cL_addWord 1 = .ok (.invokevirtual 35, 3) := by decide +kernel
theorem dL_addWord_4 : decode cL_addWord 4 = .ok (.ireturn, 1) := by decide +kernel
theorem dL_addWord_5 : decode cL_addWord 5 = .ok (.astore_n 1, 1) := by decide +kernel
theorem dL_addWord_6 : decode cL_addWord 6 = .ok (.ldc 16, 2) := by decide +kernel
theorem dL_addWord_8 : decode cL_addWord 8 = .ok (.ireturn, 1) := by decide +kernel
theorem dL_give_0 : decode cL_give 0 = .ok (.aload_n 0, 1) := by decide +kernel
theorem dL_give_1 : decode cL_give 1 = .ok (.iload_n 1, 1) := by decide +kernel
theorem dL_give_2 : decode cL_give 2 = .ok (.iload_n 2, 1) := by decide +kernel
theorem dL_give_3 : decode cL_give 3 = .ok (.invokevirtual 38, 3) := by decide +kernel
theorem dL_give_6 : decode cL_give 6 = .ok (.ireturn, 1) := by decide +kernel
theorem dL_give_7 : decode cL_give 7 = .ok (.astore_n 3, 1) := by decide +kernel
theorem dL_give_8 : decode cL_give 8 = .ok (.ldc 16, 2) := by decide +kernel
theorem dL_give_10 : decode cL_give 10 = .ok (.ireturn, 1) := by decide +kernel
theorem dL_give_11 : decode cL_give 11 = .ok (.astore_n 3, 1) := by decide +kernel
theorem dL_give_12 : decode cL_give 12 = .ok (.ldc 16, 2) := by decide +kernel
theorem dL_give_14 : decode cL_give 14 = .ok (.ireturn, 1) := by decide +kernel
theorem dL_take_0 : decode cL_take 0 = .ok (.aload_n 0, 1) := by decide +kernel
theorem dL_take_1 : decode cL_take 1 = .ok (.iload_n 1, 1) := by decide +kernel
theorem dL_take_2 : decode cL_take 2 = .ok (.iload_n 2, 1) := by decide +kernel
theorem dL_take_3 : decode cL_take 3 = .ok (.invokevirtual 41, 3) := by decide +kernel
theorem dL_take_6 : decode cL_take 6 = .ok (.ireturn, 1) := by decide +kernel
theorem dL_take_7 : decode cL_take 7 = .ok (.astore_n 3, 1) := by decide +kernel
theorem dL_take_8 : decode cL_take 8 = .ok (.ldc 16, 2) := by decide +kernel
theorem dL_take_10 : decode cL_take 10 = .ok (.ireturn, 1) := by decide +kernel
theorem dL_take_11 : decode cL_take 11 = .ok (.astore_n 3, 1) := by decide +kernel
theorem dL_take_12 : decode cL_take 12 = .ok (.ldc 16, 2) := by decide +kernel
theorem dL_take_14 : decode cL_take 14 = .ok (.ireturn, 1) := by decide +kernel
theorem dL_lock_0 : decode cL_lock 0 = .ok (.aload_n 0, 1) := by decide +kernel
theorem dL_lock_1 : decode cL_lock 1 = .ok (.iload_n 1, 1) := by decide +kernel
theorem dL_lock_2 : decode cL_lock 2 = .ok (.iload_n 2, 1) := by decide +kernel
theorem dL_lock_3 : decode cL_lock 3 = .ok (.invokevirtual 44, 3) := by decide +kernel
theorem dL_lock_6 : decode cL_lock 6 = .ok (.ireturn, 1) := by decide +kernel
theorem dL_lock_7 : decode cL_lock 7 = .ok (.astore_n 3, 1) := by decide +kernel
theorem dL_lock_8 : decode cL_lock 8 = .ok (.ldc 16, 2) := by decide +kernel
theorem dL_lock_10 : decode cL_lock 10 = .ok (.ireturn, 1) := by decide +kernel
theorem dL_lock_11 : decode cL_lock 11 = .ok (.astore_n 3, 1) := by decide +kernel
theorem dL_lock_12 : decode cL_lock 12 = .ok (.ldc 16, 2) := by decide +kernel
theorem dL_lock_14 : decode cL_lock 14 = .ok (.ireturn, 1) := by decide +kernel
theorem dL_say_0 : decode cL_say 0 = .ok (.aload_n 0, 1) := by decide +kernel
theorem dL_say_1 : decode cL_say 1 = .ok (.iload_n 1, 1) := by decide +kernel
theorem dL_say_2 : decode cL_say 2 = .ok (.invokevirtual 47, 3) := by decide +kernel
theorem dL_say_5 : decode cL_say 5 = .ok (.ireturn, 1) := by decide +kernel
theorem dL_say_6 : decode cL_say 6 = .ok (.astore_n 2, 1) := by decide +kernel
theorem dL_say_7 : decode cL_say 7 = .ok (.ldc 16, 2) := by decide +kernel
theorem dL_say_9 : decode cL_say 9 = .ok (.ireturn, 1) := by decide +kernel
theorem dL_say_10 : decode cL_say 10 = .ok (.astore_n 2, 1) := by decide +kernel
theorem dL_say_11 : decode cL_say 11 = .ok (.ldc 16, 2) := by decide +kernel
theorem dL_say_13 : decode cL_say 13 = .ok (.ireturn, 1) := by decide +kernel
theorem dL_mass_0 : decode cL_mass 0 = .ok (.aload_n 0, 1) := by decide +kernel
theorem dL_mass_1 : decode cL_mass 1 = .ok (.iload_n 1, 1) := by decide +kernel
theorem dL_mass_2 : decode cL_mass 2 = .ok (.invokevirtual 50, 3) := by decide +kernel
theorem dL_mass_5 : decode cL_mass 5 = .ok (.ireturn, 1) := by decide +kernel
theorem dL_mass_6 : decode cL_mass 6 = .ok (.astore_n 2, 1) := by decide +kernel
theorem dL_mass_7 : decode cL_mass 7 = .ok (.iconst (-1), 1) := by decide +kernel
theorem dL_mass_8 : decode cL_mass 8 = .ok (.ireturn, 1) := by decide +kernel
theorem dL_chosen_0 : decode cL_chosen 0 = .ok (.aload_n 0, 1) := by decide +kernel
theorem dL_chosen_1 : decode cL_chosen 1 = .ok (.iload_n 1, 1) := by decide +kernel
theorem dL_chosen_2 : decode cL_chosen 2 = .ok (.iload_n 2, 1) := by decide +kernel
theorem dL_chosen_3 : decode cL_chosen 3 = .ok (.invokevirtual 53, 3) := by decide +kernel
theorem dL_chosen_6 : decode cL_chosen 6 = .ok (.ireturn, 1) := by decide +kernel
theorem dL_chosen_7 : decode cL_chosen 7 = .ok (.astore_n 3, 1) := by decide +kernel
theorem dL_chosen_8 : decode cL_chosen 8 = .ok (.iconst (-1), 1) := by decide +kernel
theorem dL_chosen_9 : decode cL_chosen 9 = .ok (.ireturn, 1) := by decide +kernel
theorem dL_chosen_10 : decode cL_chosen 10 = .ok (.astore_n 3, 1) := by decide +kernel
theorem dL_chosen_11 : decode cL_chosen 11 = .ok (.bipush (-2), 2) := by decide +kernel
theorem dL_chosen_13 : decode cL_chosen 13 = .ok (.ireturn, 1) := by decide +kernel
theorem dL_act_0 : decode cL_act 0 = .ok (.iload_n 1, 1) := by decide +kernel
theorem dL_act_1 : decode cL_act 1 = .ok (.iconst 4, 1) := by decide +kernel
theorem dL_act_2 : decode cL_act 2 = .ok (.ishr, 1) := by decide +kernel
theorem dL_act_3 : decode cL_act 3 = .ok (.bipush 14, 2) := by decide +kernel
theorem dL_act_5 : decode cL_act 5 = .ok (.invokestatic 56, 3) := by decide +kernel
theorem dL_act_8 : decode cL_act 8 = .ok (.istore_n 2, 1) := by decide +kernel
theorem dL_act_9 : decode cL_act 9 = .ok (.iload_n 1, 1) := by decide +kernel
theorem dL_act_10 : decode cL_act 10 = .ok (.bipush 8, 2) := by decide +kernel
theorem dL_act_12 : decode cL_act 12 = .ok (.ishr, 1) := by decide +kernel
theorem dL_act_13 : decode cL_act 13 = .ok (.bipush 14, 2) := by decide +kernel
theorem dL_act_15 : decode cL_act 15 = .ok (.invokestatic 56, 3) := by decide +kernel
theorem dL_act_18 : decode cL_act 18 = .ok (.istore_n 3, 1) := by decide +kernel
theorem dL_act_19 : decode cL_act 19 = .ok (.iload_n 1, 1) := by decide +kernel
theorem dL_act_20 : decode cL_act 20 = .ok (.iconst 4, 1) := by decide +kernel
theorem dL_act_21 : decode cL_act 21 = .ok (.ishr, 1) := by decide +kernel
theorem dL_act_22 : decode cL_act 22 = .ok (.iconst 4, 1) := by decide +kernel
theorem dL_act_23 : decode cL_act 23 = .ok (.invokestatic 56, 3) := by decide +kernel
theorem dL_act_26 : decode cL_act 26 = .ok (.istore 4, 2) := by decide +kernel
theorem dL_act_28 : decode cL_act 28 = .ok (.iload_n 1, 1) := by decide +kernel
theorem dL_act_29 : decode cL_act 29 = .ok (.bipush 20, 2) := by decide +kernel
theorem dL_act_31 : decode cL_act 31 = .ok (.invokestatic 56, 3) := by decide +kernel
theorem dL_act_34 : decode cL_act 34 = .ok (.tableswitch 240 0 18 #[90, 90, 90, 90, 126, 126, 126, 126, 133, 140, 166, 166, 181, 186, 186, 194, 223, 233, 233], 90) := by decide +kernel
theorem dL_act_124 : decode cL_act 124 = .ok (.iload_n 1, 1) := by decide +kernel
theorem dL_act_125 : decode cL_act 125 = .ok (.bipush 14, 2) := by decide +kernel
theorem dL_act_127 : decode cL_act 127 = .ok (.ishr, 1) := by decide +kernel
theorem dL_act_128 : decode cL_act 128 = .ok (.iconst 4, 1) := by decide +kernel
theorem dL_act_129 : decode cL_act 129 = .ok (.invokestatic 56, 3) := by decide +kernel
theorem dL_act_132 : decode cL_act 132 = .ok (.ifCond .le 10, 3) := by decide +kernel
theorem dL_act_135 : decode cL_act 135 = .ok (.aload_n 0, 1) := by decide +kernel
theorem dL_act_136 : decode cL_act 136 = .ok (.invokestatic 61, 3) := by decide +kernel
theorem dL_act_139 : decode cL_act 139 = .ok (.goto 20, 3) := by decide +kernel
theorem dL_act_142 : decode cL_act 142 = .ok (.aload_n 0, 1) := by decide +kernel
theorem dL_act_143 : decode cL_act 143 = .ok (.iload_n 2, 1) := by decide +kernel
theorem dL_act_144 : decode cL_act 144 = .ok (.iload_n 1, 1) := by decide +kernel
theorem dL_act_145 : decode cL_act 145 = .ok (.bipush 9, 2) := by decide +kernel
theorem dL_act_147 : decode cL_act 147 = .ok (.ishr, 1) := by decide +kernel
theorem dL_act_148 : decode cL_act 148 = .ok (.sipush 1010, 3) := by decide +kernel
theorem dL_act_151 : decode cL_act 151 = .ok (.invokestatic 56, 3) := by decide +kernel
theorem dL_act_154 : decode cL_act 154 = .ok (.iconst 5, 1) := by decide +kernel
theorem dL_act_155 : decode cL_act 155 = .ok (.isub, 1) := by decide +kernel
theorem dL_act_156 : decode cL_act 156 = .ok (.invokestatic 64, 3) := by decide +kernel
theorem dL_act_159 : decode cL_act 159 = .ok (.ireturn, 1) := by decide +kernel
theorem dL_act_160 : decode cL_act 160 = .ok (.aload_n 0, 1) := by decide +kernel
theorem dL_act_161 : decode cL_act 161 = .ok (.iload_n 2, 1) := by decide +kernel
theorem dL_act_162 : decode cL_act 162 = .ok (.iload_n 3, 1) := by decide +kernel
theorem dL_act_163 : decode cL_act 163 = .ok (.invokestatic 67, 3) := by decide +kernel
theorem dL_act_166 : decode cL_act 166 = .ok (.ireturn, 1) := by decide +kernel
theorem dL_act_167 : decode cL_act 167 = .ok (.aload_n 0, 1) := by decide +kernel
theorem dL_act_168 : decode cL_act 168 = .ok (.iload_n 2, 1) := by decide +kernel
theorem dL_act_169 : decode cL_act 169 = .ok (.iload_n 3, 1) := by decide +kernel
theorem dL_act_170 : decode cL_act 170 = .ok (.invokestatic 69, 3) := by decide +kernel
theorem dL_act_173 : decode cL_act 173 = .ok (.ireturn, 1) := by decide +kernel
theorem dL_act_174 : decode cL_act 174 = .ok (.iload_n 1, 1) := by decide +kernel
theorem dL_act_175 : decode cL_act 175 = .ok (.bipush 14, 2) := by decide +kernel
theorem dL_act_177 : decode cL_act 177 = .ok (.ishr, 1) := by decide +kernel
theorem dL_act_178 : decode cL_act 178 = .ok (.iconst 2, 1) := by decide +kernel
theorem dL_act_179 : decode cL_act 179 = .ok (.invokestatic 56, 3) := by decide +kernel
theorem dL_act_182 : decode cL_act 182 = .ok (.ifCond .ne 11, 3) := by decide +kernel
theorem dL_act_185 : decode cL_act 185 = .ok (.aload_n 0, 1) := by decide +kernel
theorem dL_act_186 : decode cL_act 186 = .ok (.iload_n 2, 1) := by decide +kernel
theorem dL_act_187 : decode cL_act 187 = .ok (.invokestatic 71, 3) := by decide +kernel
theorem dL_act_190 : decode cL_act 190 = .ok (.goto 9, 3) := by decide +kernel
theorem dL_act_193 : decode cL_act 193 = .ok (.aload_n 0, 1) := by decide +kernel
theorem dL_act_194 : decode cL_act 194 = .ok (.iload_n 2, 1) := by decide +kernel
theorem dL_act_195 : decode cL_act 195 = .ok (.iload_n 3, 1) := by decide +kernel
theorem dL_act_196 : decode cL_act 196 = .ok (.invokestatic 67, 3) := by decide +kernel
theorem dL_act_199 : decode cL_act 199 = .ok (.ireturn, 1) := by decide +kernel
theorem dL_act_200 : decode cL_act 200 = .ok (.aload_n 0, 1) := by decide +kernel
theorem dL_act_201 : decode cL_act 201 = .ok (.iload_n 2, 1) := by decide +kernel
theorem dL_act_202 : decode cL_act 202 = .ok (.iload_n 1, 1) := by decide +kernel
theorem dL_act_203 : decode cL_act 203 = .ok (.bipush 12, 2) := by decide +kernel
theorem dL_act_205 : decode cL_act 205 = .ok (.ishr, 1) := by decide +kernel
theorem dL_act_206 : decode cL_act 206 = .ok (.bipush 20, 2) := by decide +kernel
theorem dL_act_208 : decode cL_act 208 = .ok (.invokestatic 56, 3) := by decide +kernel
theorem dL_act_211 : decode cL_act 211 = .ok (.invokestatic 64, 3) := by decide +kernel
theorem dL_act_214 : decode cL_act 214 = .ok (.ireturn, 1) := by decide +kernel
theorem dL_act_215 : decode cL_act 215 = .ok (.aload_n 0, 1) := by decide +kernel
theorem dL_act_216 : decode cL_act 216 = .ok (.invokestatic 74, 3) := by decide +kernel
theorem dL_act_219 : decode cL_act 219 = .ok (.ireturn, 1) := by decide +kernel
theorem dL_act_220 : decode cL_act 220 = .ok (.aload_n 0, 1) := by decide +kernel
theorem dL_act_221 : decode cL_act 221 = .ok (.iload 4, 2) := by decide +kernel
theorem dL_act_223 : decode cL_act 223 = .ok (.iload_n 3, 1) := by decide +kernel
theorem dL_act_224 : decode cL_act 224 = .ok (.invokestatic 76, 3) := by decide +kernel
theorem dL_act_227 : decode cL_act 227 = .ok (.ireturn, 1) := by decide +kernel
theorem dL_act_228 : decode cL_act 228 = .ok (.iload_n 1, 1) := by decide +kernel
theorem dL_act_229 : decode cL_act 229 = .ok (.bipush 14, 2) := by decide +kernel
theorem dL_act_231 : decode cL_act 231 = .ok (.ishr, 1) := by decide +kernel
theorem dL_act_232 : decode cL_act 232 = .ok (.iconst 3, 1) := by decide +kernel
theorem dL_act_233 : decode cL_act 233 = .ok (.invokestatic 56, 3) := by decide +kernel
theorem dL_act_236 : decode cL_act 236 = .ok (.ifCond .ne 13, 3) := by decide +kernel
theorem dL_act_239 : decode cL_act 239 = .ok (.aload_n 0, 1) := by decide +kernel
theorem dL_act_240 : decode cL_act 240 = .ok (.iload 4, 2) := by decide +kernel
theorem dL_act_242 : decode cL_act 242 = .ok (.iload_n 3, 1) := by decide +kernel
theorem dL_act_243 : decode cL_act 243 = .ok (.invokestatic 78, 3) := by decide +kernel
theorem dL_act_246 : decode cL_act 246 = .ok (.goto 10, 3) := by decide +kernel
theorem dL_act_249 : decode cL_act 249 = .ok (.aload_n 0, 1) := by decide +kernel
theorem dL_act_250 : decode cL_act 250 = .ok (.iload 4, 2) := by decide +kernel
theorem dL_act_252 : decode cL_act 252 = .ok (.iload_n 3, 1) := by decide +kernel
theorem dL_act_253 : decode cL_act 253 = .ok (.invokestatic 76, 3) := by decide +kernel
theorem dL_act_256 : decode cL_act 256 = .ok (.ireturn, 1) := by decide +kernel
theorem dL_act_257 : decode cL_act 257 = .ok (.aload_n 0, 1) := by decide +kernel
theorem dL_act_258 : decode cL_act 258 = .ok (.iload 4, 2) := by decide +kernel
theorem dL_act_260 : decode cL_act 260 = .ok (.iload_n 3, 1) := by decide +kernel
theorem dL_act_261 : decode cL_act 261 = .ok (.iconst 1, 1) := by decide +kernel
theorem dL_act_262 : decode cL_act 262 = .ok (.isub, 1) := by decide +kernel
theorem dL_act_263 : decode cL_act 263 = .ok (.invokestatic 80, 3) := by decide +kernel
theorem dL_act_266 : decode cL_act 266 = .ok (.ireturn, 1) := by decide +kernel
theorem dL_act_267 : decode cL_act 267 = .ok (.aload_n 0, 1) := by decide +kernel
theorem dL_act_268 : decode cL_act 268 = .ok (.iload 4, 2) := by decide +kernel
theorem dL_act_270 : decode cL_act 270 = .ok (.invokestatic 82, 3) := by decide +kernel
theorem dL_act_273 : decode cL_act 273 = .ok (.ireturn, 1) := by decide +kernel
theorem dL_act_274 : decode cL_act 274 = .ok (.iload_n 1, 1) := by decide +kernel
theorem dL_act_275 : decode cL_act 275 = .ok (.bipush 14, 2) := by decide +kernel
theorem dL_act_277 : decode cL_act 277 = .ok (.ishr, 1) := by decide +kernel
theorem dL_act_278 : decode cL_act 278 = .ok (.iconst 4, 1) := by decide +kernel
theorem dL_act_279 : decode cL_act 279 = .ok (.invokestatic 56, 3) := by decide +kernel
theorem dL_act_282 : decode cL_act 282 = .ok (.ifCond .ne 10, 3) := by decide +kernel
theorem dL_act_285 : decode cL_act 285 = .ok (.aload_n 0, 1) := by decide +kernel
theorem dL_act_286 : decode cL_act 286 = .ok (.invokevirtual 84, 3) := by decide +kernel
theorem dL_act_289 : decode cL_act 289 = .ok (.goto 9, 3) := by decide +kernel
theorem dL_act_292 : decode cL_act 292 = .ok (.aload_n 0, 1) := by decide +kernel
theorem dL_act_293 : decode cL_act 293 = .ok (.iload 4, 2) := by decide +kernel
theorem dL_act_295 : decode cL_act 295 = .ok (.invokestatic 82, 3) := by decide +kernel
theorem dL_act_298 : decode cL_act 298 = .ok (.ireturn, 1) := by decide +kernel
theorem dL_areAlike_0 : decode cL_areAlike 0 = .ok (.aload_n 0, 1) := by decide +kernel
theorem dL_areAlike_1 : decode cL_areAlike 1 = .ok (.invokevirtual 87, 3) := by decide +kernel
theorem dL_areAlike_4 : decode cL_areAlike 4 = .ok (.aload_n 1, 1) := by decide +kernel
theorem dL_areAlike_5 : decode cL_areAlike 5 = .ok (.invokevirtual 87, 3) := by decide +kernel
theorem dL_areAlike_8 : decode cL_areAlike 8 = .ok (.if_icmp .ne 18, 3) := by decide +kernel
theorem dL_areAlike_11 : decode cL_areAlike 11 = .ok (.aload_n 0, 1) := by decide +kernel
theorem dL_areAlike_12 : decode cL_areAlike 12 = .ok (.invokevirtual 90, 3) := by decide +kernel
theorem dL_areAlike_15 : decode cL_areAlike 15 = .ok (.aload_n 1, 1) := by decide +kernel
theorem dL_areAlike_16 : decode cL_areAlike 16 = .ok (.invokevirtual 90, 3) := by decide +kernel
theorem dL_areAlike_19 : decode cL_areAlike 19 = .ok (.if_icmp .ne 7, 3) := by decide +kernel
theorem dL_areAlike_22 : decode cL_areAlike 22 = .ok (.iconst 1, 1) := by decide +kernel
theorem dL_areAlike_23 : decode cL_areAlike 23 = .ok (.goto 4, 3) := by decide +kernel
theorem dL_areAlike_26 : decode cL_areAlike 26 = .ok (.iconst 0, 1) := by decide +kernel
theorem dL_areAlike_27 : decode cL_areAlike 27 = .ok (.istore_n 2, 1) := by decide +kernel
theorem dL_areAlike_28 : decode cL_areAlike 28 = .ok (.iconst 0, 1) := by decide +kernel
theorem dL_areAlike_29 : decode cL_areAlike 29 = .ok (.istore_n 3, 1) := by decide +kernel
theorem dL_areAlike_30 : decode cL_areAlike 30 = .ok (.iload_n 3, 1) := by decide +kernel
theorem dL_areAlike_31 : decode cL_areAlike 31 = .ok (.bipush 14, 2) := by decide +kernel
theorem dL_areAlike_33 : decode cL_areAlike 33 = .ok (.if_icmp .ge 53, 3) := by decide +kernel
theorem dL_areAlike_36 : decode cL_areAlike 36 = .ok (.iload_n 2, 1) := by decide +kernel
theorem dL_areAlike_37 : decode cL_areAlike 37 = .ok (.ifCond .eq 41, 3) := by decide +kernel
theorem dL_areAlike_40 : decode cL_areAlike 40 = .ok (.aload_n 0, 1) := by decide +kernel
theorem dL_areAlike_41 : decode cL_areAlike 41 = .ok (.iload_n 3, 1) := by decide +kernel
theorem dL_areAlike_42 : decode cL_areAlike 42 = .ok (.invokestatic 93, 3) := by decide +kernel
theorem dL_areAlike_45 : decode cL_areAlike 45 = .ok (.aload_n 1, 1) := by decide +kernel
theorem dL_areAlike_46 : decode cL_areAlike 46 = .ok (.iload_n 3, 1) := by decide +kernel
theorem dL_areAlike_47 : decode cL_areAlike 47 = .ok (.invokestatic 93, 3) := by decide +kernel
theorem dL_areAlike_50 : decode cL_areAlike 50 = .ok (.if_icmp .ne 28, 3) := by decide +kernel
theorem dL_areAlike_53 : decode cL_areAlike 53 = .ok (.aload_n 0, 1) := by decide +kernel
theorem dL_areAlike_54 : decode cL_areAlike 54 = .ok (.iload_n 3, 1) := by decide +kernel
theorem dL_areAlike_55 : decode cL_areAlike 55 = .ok (.invokestatic 93, 3) := by decide +kernel
theorem dL_areAlike_58 : decode cL_areAlike 58 = .ok (.ifCond .lt 16, 3) := by decide +kernel
theorem dL_areAlike_61 : decode cL_areAlike 61 = .ok (.aload_n 0, 1) := by decide +kernel
theorem dL_areAlike_62 : decode cL_areAlike 62 = .ok (.iload_n 3, 1) := by decide +kernel
theorem dL_areAlike_63 : decode cL_areAlike 63 = .ok (.invokevirtual 95, 3) := by decide +kernel
theorem dL_areAlike_66 : decode cL_areAlike 66 = .ok (.aload_n 1, 1) := by decide +kernel
theorem dL_areAlike_67 : decode cL_areAlike 67 = .ok (.iload_n 3, 1) := by decide +kernel
theorem dL_areAlike_68 : decode cL_areAlike 68 = .ok (.invokevirtual 95, 3) := by decide +kernel
theorem dL_areAlike_71 : decode cL_areAlike 71 = .ok (.if_icmp .ne 7, 3) := by decide +kernel
theorem dL_areAlike_74 : decode cL_areAlike 74 = .ok (.iconst 1, 1) := by decide +kernel
theorem dL_areAlike_75 : decode cL_areAlike 75 = .ok (.goto 4, 3) := by decide +kernel
theorem dL_areAlike_78 : decode cL_areAlike 78 = .ok (.iconst 0, 1) := by decide +kernel
theorem dL_areAlike_79 : decode cL_areAlike 79 = .ok (.istore_n 2, 1) := by decide +kernel
theorem dL_areAlike_80 : decode cL_areAlike 80 = .ok (.iinc 3 1, 3) := by decide +kernel
theorem dL_areAlike_83 : decode cL_areAlike 83 = .ok (.goto (-53), 3) := by decide +kernel
theorem dL_areAlike_86 : decode cL_areAlike 86 = .ok (.iload_n 2, 1) := by decide +kernel
theorem dL_areAlike_87 : decode cL_areAlike 87 = .ok (.ireturn, 1) := by decide +kernel
theorem dL_bits_0 : decode cL_bits 0 = .ok (.iconst 0, 1) := by decide +kernel
theorem dL_bits_1 : decode cL_bits 1 = .ok (.istore_n 1, 1) := by decide +kernel
theorem dL_bits_2 : decode cL_bits 2 = .ok (.iload_n 0, 1) := by decide +kernel
theorem dL_bits_3 : decode cL_bits 3 = .ok (.istore_n 2, 1) := by decide +kernel
theorem dL_bits_4 : decode cL_bits 4 = .ok (.iload_n 2, 1) := by decide +kernel
theorem dL_bits_5 : decode cL_bits 5 = .ok (.ifCond .eq 15, 3) := by decide +kernel
theorem dL_bits_8 : decode cL_bits 8 = .ok (.iinc 1 1, 3) := by decide +kernel
theorem dL_bits_11 : decode cL_bits 11 = .ok (.iload_n 2, 1) := by decide +kernel
theorem dL_bits_12 : decode cL_bits 12 = .ok (.iload_n 2, 1) := by decide +kernel
theorem dL_bits_13 : decode cL_bits 13 = .ok (.iconst 1, 1) := by decide +kernel
theorem dL_bits_14 : decode cL_bits 14 = .ok (.isub, 1) := by decide +kernel
theorem dL_bits_15 : decode cL_bits 15 = .ok (.iand, 1) := by decide +kernel
theorem dL_bits_16 : decode cL_bits 16 = .ok (.istore_n 2, 1) := by decide +kernel
theorem dL_bits_17 : decode cL_bits 17 = .ok (.goto (-13), 3) := by decide +kernel
theorem dL_bits_20 : decode cL_bits 20 = .ok (.iload_n 1, 1) := by decide +kernel
theorem dL_bits_21 : decode cL_bits 21 = .ok (.ireturn, 1) := by decide +kernel
theorem dL_isSenseSo_0 : decode cL_isSenseSo 0 = .ok (.aload_n 0, 1) := by decide +kernel
theorem dL_isSenseSo_1 : decode cL_isSenseSo 1 = .ok (.iload_n 1, 1) := by decide +kernel
theorem dL_isSenseSo_2 : decode cL_isSenseSo 2 = .ok (.invokevirtual 95, 3) := by decide +kernel
theorem dL_isSenseSo_5 : decode cL_isSenseSo 5 = .ok (.istore_n 2, 1) := by decide +kernel
theorem dL_isSenseSo_6 : decode cL_isSenseSo 6 = .ok (.aload_n 0, 1) := by decide +kernel
theorem dL_isSenseSo_7 : decode cL_isSenseSo 7 = .ok (.iload_n 1, 1) := by decide +kernel
theorem dL_isSenseSo_8 : decode cL_isSenseSo 8 = .ok (.invokevirtual 98, 3) := by decide +kernel
theorem dL_isSenseSo_11 : decode cL_isSenseSo 11 = .ok (.istore_n 3, 1) := by decide +kernel
theorem dL_isSenseSo_12 : decode cL_isSenseSo 12 = .ok (.aload_n 0, 1) := by decide +kernel
theorem dL_isSenseSo_13 : decode cL_isSenseSo 13 = .ok (.iload_n 1, 1) := by decide +kernel
theorem dL_isSenseSo_14 : decode cL_isSenseSo 14 = .ok (.invokevirtual 101, 3) := by decide +kernel
theorem dL_isSenseSo_17 : decode cL_isSenseSo 17 = .ok (.istore 4, 2) := by decide +kernel
theorem dL_isSenseSo_19 : decode cL_isSenseSo 19 = .ok (.iload_n 2, 1) := by decide +kernel
theorem dL_isSenseSo_20 : decode cL_isSenseSo 20 = .ok (.istore 5, 2) := by decide +kernel
theorem dL_isSenseSo_22 : decode cL_isSenseSo 22 = .ok (.iload_n 2, 1) := by decide +kernel
theorem dL_isSenseSo_23 : decode cL_isSenseSo 23 = .ok (.ifCond .ne 7, 3) := by decide +kernel
theorem dL_isSenseSo_26 : decode cL_isSenseSo 26 = .ok (.iconst 0, 1) := by decide +kernel
theorem dL_isSenseSo_27 : decode cL_isSenseSo 27 = .ok (.goto 5, 3) := by decide +kernel
theorem dL_isSenseSo_30 : decode cL_isSenseSo 30 = .ok (.bipush 99, 2) := by decide +kernel
theorem dL_isSenseSo_32 : decode cL_isSenseSo 32 = .ok (.istore 6, 2) := by decide +kernel
theorem dL_isSenseSo_34 : decode cL_isSenseSo 34 = .ok (.iload_n 2, 1) := by decide +kernel
theorem dL_isSenseSo_35 : decode cL_isSenseSo 35 = .ok (.invokestatic 104, 3) := by decide +kernel
theorem dL_isSenseSo_38 : decode cL_isSenseSo 38 = .ok (.iconst 4, 1) := by decide +kernel
theorem dL_isSenseSo_39 : decode cL_isSenseSo 39 = .ok (.if_icmp .gt 54, 3) := by decide +kernel
theorem dL_isSenseSo_42 : decode cL_isSenseSo 42 = .ok (.iload_n 3, 1) := by decide +kernel
theorem dL_isSenseSo_43 : decode cL_isSenseSo 43 = .ok (.iload 4, 2) := by decide +kernel
theorem dL_isSenseSo_45 : decode cL_isSenseSo 45 = .ok (.iand, 1) := by decide +kernel
theorem dL_isSenseSo_46 : decode cL_isSenseSo 46 = .ok (.ifCond .ne 47, 3) := by decide +kernel
theorem dL_isSenseSo_49 : decode cL_isSenseSo 49 = .ok (.iload_n 3, 1) := by decide +kernel
