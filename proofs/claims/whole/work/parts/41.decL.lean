theorem dXL_run_0 : decode cXL_run 0 = .ok (.aload_n 2, 1) := by decide +kernel
theorem dXL_run_1 : decode cXL_run 1 = .ok (.iconst 0, 1) := by decide +kernel
theorem dXL_run_2 : decode cXL_run 2 = .ok (.aload_n 0, 1) := by decide +kernel
theorem dXL_run_3 : decode cXL_run 3 = .ok (.iload_n 1, 1) := by decide +kernel
theorem dXL_run_4 : decode cXL_run 4 = .ok (.invokevirtual 7, 3) := by decide +kernel
theorem dXL_run_7 : decode cXL_run 7 = .ok (.i2l, 1) := by decide +kernel
theorem dXL_run_8 : decode cXL_run 8 = .ok (.lastore, 1) := by decide +kernel
theorem dXL_run_9 : decode cXL_run 9 = .ok (.goto 6, 3) := by decide +kernel
theorem dXL_run_12 : decode cXL_run 12 = .ok (.astore_n 3, 1) := by decide +kernel
theorem dXL_run_13 : decode cXL_run 13 = .ok (.iconst 1, 1) := by decide +kernel
theorem dXL_run_14 : decode cXL_run 14 = .ok (.ireturn, 1) := by decide +kernel
theorem dXL_run_15 : decode cXL_run 15 = .ok (.iconst 0, 1) := by decide +kernel
theorem dXL_run_16 : decode cXL_run 16 = .ok (.ireturn, 1) := by decide +kernel
theorem dXL_peek_0 : decode cXL_peek 0 = .ok (.aload_n 2, 1) := by decide +kernel
theorem dXL_peek_1 : decode cXL_peek 1 = .ok (.iconst 0, 1) := by decide +kernel
theorem dXL_peek_2 : decode cXL_peek 2 = .ok (.aload_n 0, 1) := by decide +kernel
theorem dXL_peek_3 : decode cXL_peek 3 = .ok (.iload_n 1, 1) := by decide +kernel
theorem dXL_peek_4 : decode cXL_peek 4 = .ok (.invokevirtual 15, 3) := by decide +kernel
theorem dXL_peek_7 : decode cXL_peek 7 = .ok (.i2l, 1) := by decide +kernel
theorem dXL_peek_8 : decode cXL_peek 8 = .ok (.lastore, 1) := by decide +kernel
theorem dXL_peek_9 : decode cXL_peek 9 = .ok (.goto 6, 3) := by decide +kernel
theorem dXL_peek_12 : decode cXL_peek 12 = .ok (.astore_n 3, 1) := by decide +kernel
theorem dXL_peek_13 : decode cXL_peek 13 = .ok (.iconst 1, 1) := by decide +kernel
theorem dXL_peek_14 : decode cXL_peek 14 = .ok (.ireturn, 1) := by decide +kernel
theorem dXL_peek_15 : decode cXL_peek 15 = .ok (.iconst 0, 1) := by decide +kernel
theorem dXL_peek_16 : decode cXL_peek 16 = .ok (.ireturn, 1) := by decide +kernel
theorem dXL_poke_0 : decode cXL_poke 0 = .ok (.aload_n 0, 1) := by decide +kernel
theorem dXL_poke_1 : decode cXL_poke 1 = .ok (.iload_n 1, 1) := by decide +kernel
theorem dXL_poke_2 : decode cXL_poke 2 = .ok (.iload_n 2, 1) := by decide +kernel
theorem dXL_poke_3 : decode cXL_poke 3 = .ok (.invokevirtual 20, 3) := by decide +kernel
theorem dXL_poke_6 : decode cXL_poke 6 = .ok (.goto 6, 3) := by decide +kernel
theorem dXL_poke_9 : decode cXL_poke 9 = .ok (.astore_n 3, 1) := by decide +kernel
theorem dXL_poke_10 : decode cXL_poke 10 = .ok (.iconst 1, 1) := by decide +kernel
theorem dXL_poke_11 : decode cXL_poke 11 = .ok (.ireturn, 1) := by decide +kernel
theorem dXL_poke_12 : decode cXL_poke 12 = .ok (.iconst 0, 1) := by decide +kernel
theorem dXL_poke_13 : decode cXL_poke 13 = .ok (.ireturn, 1) := by decide +kernel
theorem dXL_pokeFour_0 : decode cXL_pokeFour 0 = .ok (.aload_n 0, 1) := by decide +kernel
theorem dXL_pokeFour_1 : decode cXL_pokeFour 1 = .ok (.iload_n 1, 1) := by decide +kernel
theorem dXL_pokeFour_2 : decode cXL_pokeFour 2 = .ok (.iload_n 2, 1) := by decide +kernel
theorem dXL_pokeFour_3 : decode cXL_pokeFour 3 = .ok (.iload_n 3, 1) := by decide +kernel
theorem dXL_pokeFour_4 : decode cXL_pokeFour 4 = .ok (.iload 4, 2) := by decide +kernel
theorem dXL_pokeFour_6 : decode cXL_pokeFour 6 = .ok (.iload 5, 2) := by decide +kernel
theorem dXL_pokeFour_8 : decode cXL_pokeFour 8 = .ok (.invokevirtual 24, 3) := by decide +kernel
theorem dXL_pokeFour_11 : decode cXL_pokeFour 11 = .ok (.goto 7, 3) := by decide +kernel
theorem dXL_pokeFour_14 : decode cXL_pokeFour 14 = .ok (.astore 6, 2) := by decide +kernel
theorem dXL_pokeFour_16 : decode cXL_pokeFour 16 = .ok (.iconst 1, 1) := by decide +kernel
theorem dXL_pokeFour_17 : decode cXL_pokeFour 17 = .ok (.ireturn, 1) := by decide +kernel
theorem dXL_pokeFour_18 : decode cXL_pokeFour 18 = .ok (.iconst 0, 1) := by decide +kernel
theorem dXL_pokeFour_19 : decode cXL_pokeFour 19 = .ok (.ireturn, 1) := by decide +kernel
theorem dXL_register_0 : decode cXL_register 0 = .ok (.aload_n 2, 1) := by decide +kernel
theorem dXL_register_1 : decode cXL_register 1 = .ok (.iconst 0, 1) := by decide +kernel
theorem dXL_register_2 : decode cXL_register 2 = .ok (.aload_n 0, 1) := by decide +kernel
theorem dXL_register_3 : decode cXL_register 3 = .ok (.iload_n 1, 1) := by decide +kernel
theorem dXL_register_4 : decode cXL_register 4 = .ok (.invokevirtual 28, 3) := by decide +kernel
theorem dXL_register_7 : decode cXL_register 7 = .ok (.i2l, 1) := by decide +kernel
theorem dXL_register_8 : decode cXL_register 8 = .ok (.lastore, 1) := by decide +kernel
theorem dXL_register_9 : decode cXL_register 9 = .ok (.goto 6, 3) := by decide +kernel
theorem dXL_register_12 : decode cXL_register 12 = .ok (.astore_n 3, 1) := by decide +kernel
theorem dXL_register_13 : decode cXL_register 13 = .ok (.iconst 1, 1) := by decide +kernel
theorem dXL_register_14 : decode cXL_register 14 = .ok (.ireturn, 1) := by decide +kernel
theorem dXL_register_15 : decode cXL_register 15 = .ok (.iconst 0, 1) := by decide +kernel
theorem dXL_register_16 : decode cXL_register 16 = .ok (.ireturn, 1) := by decide +kernel
theorem dXL_setRegister_0 : decode cXL_setRegister 0 = .ok (.aload_n 0, 1) := by decide +kernel
theorem dXL_setRegister_1 : decode cXL_setRegister 1 = .ok (.iload_n 1, 1) := by decide +kernel
theorem dXL_setRegister_2 : decode cXL_setRegister 2 = .ok (.iload_n 2, 1) := by decide +kernel
theorem dXL_setRegister_3 : decode cXL_setRegister 3 = .ok (.invokevirtual 31, 3) := by decide +kernel
theorem dXL_setRegister_6 : decode cXL_setRegister 6 = .ok (.goto 6, 3) := by decide +kernel
theorem dXL_setRegister_9 : decode cXL_setRegister 9 = .ok (.astore_n 3, 1) := by decide +kernel
theorem dXL_setRegister_10 : decode cXL_setRegister 10 = .ok (.iconst 1, 1) := by decide +kernel
theorem dXL_setRegister_11 : decode cXL_setRegister 11 = .ok (.ireturn, 1) := by decide +kernel
theorem dXL_setRegister_12 : decode cXL_setRegister 12 = .ok (.iconst 0, 1) := by decide +kernel
theorem dXL_setRegister_13 : decode cXL_setRegister 13 = .ok (.ireturn, 1) := by decide +kernel
theorem dXL_control_0 : decode cXL_control 0 = .ok (.aload_n 2, 1) := by decide +kernel
theorem dXL_control_1 : decode cXL_control 1 = .ok (.iconst 0, 1) := by decide +kernel
theorem dXL_control_2 : decode cXL_control 2 = .ok (.aload_n 0, 1) := by decide +kernel
theorem dXL_control_3 : decode cXL_control 3 = .ok (.iload_n 1, 1) := by decide +kernel
theorem dXL_control_4 : decode cXL_control 4 = .ok (.invokevirtual 34, 3) := by decide +kernel
theorem dXL_control_7 : decode cXL_control 7 = .ok (.i2l, 1) := by decide +kernel
theorem dXL_control_8 : decode cXL_control 8 = .ok (.lastore, 1) := by decide +kernel
theorem dXL_control_9 : decode cXL_control 9 = .ok (.goto 6, 3) := by decide +kernel
theorem dXL_control_12 : decode cXL_control 12 = .ok (.astore_n 3, 1) := by decide +kernel
theorem dXL_control_13 : decode cXL_control 13 = .ok (.iconst 1, 1) := by decide +kernel
theorem dXL_control_14 : decode cXL_control 14 = .ok (.ireturn, 1) := by decide +kernel
theorem dXL_control_15 : decode cXL_control 15 = .ok (.iconst 0, 1) := by decide +kernel
theorem dXL_control_16 : decode cXL_control 16 = .ok (.ireturn, 1) := by decide +kernel
theorem dXL_setControl_0 : decode cXL_setControl 0 = .ok (.aload_n 0, 1) := by decide +kernel
theorem dXL_setControl_1 : decode cXL_setControl 1 = .ok (.iload_n 1, 1) := by decide +kernel
theorem dXL_setControl_2 : decode cXL_setControl 2 = .ok (.iload_n 2, 1) := by decide +kernel
theorem dXL_setControl_3 : decode cXL_setControl 3 = .ok (.invokevirtual 39, 3) := by decide +kernel
theorem dXL_setControl_6 : decode cXL_setControl 6 = .ok (.goto 6, 3) := by decide +kernel
theorem dXL_setControl_9 : decode cXL_setControl 9 = .ok (.astore_n 3, 1) := by decide +kernel
theorem dXL_setControl_10 : decode cXL_setControl 10 = .ok (.iconst 1, 1) := by decide +kernel
theorem dXL_setControl_11 : decode cXL_setControl 11 = .ok (.ireturn, 1) := by decide +kernel
theorem dXL_setControl_12 : decode cXL_setControl 12 = .ok (.iconst 0, 1) := by decide +kernel
theorem dXL_setControl_13 : decode cXL_setControl 13 = .ok (.ireturn, 1) := by decide +kernel
theorem dXL_translate_0 : decode cXL_translate 0 = .ok (.aload_n 3, 1) := by decide +kernel
theorem dXL_translate_1 : decode cXL_translate 1 = .ok (.iconst 0, 1) := by decide +kernel
theorem dXL_translate_2 : decode cXL_translate 2 = .ok (.aload_n 0, 1) := by decide +kernel
theorem dXL_translate_3 : decode cXL_translate 3 = .ok (.iload_n 1, 1) := by decide +kernel
theorem dXL_translate_4 : decode cXL_translate 4 = .ok (.iload_n 2, 1) := by decide +kernel
theorem dXL_translate_5 : decode cXL_translate 5 = .ok (.invokevirtual 42, 3) := by decide +kernel
theorem dXL_translate_8 : decode cXL_translate 8 = .ok (.i2l, 1) := by decide +kernel
theorem dXL_translate_9 : decode cXL_translate 9 = .ok (.lastore, 1) := by decide +kernel
theorem dXL_translate_10 : decode cXL_translate 10 = .ok (.goto 7, 3) := by decide +kernel
theorem dXL_translate_13 : decode cXL_translate 13 = .ok (.astore 4, 2) := by decide +kernel
theorem dXL_translate_15 : decode cXL_translate 15 = .ok (.iconst 1, 1) := by decide +kernel
theorem dXL_translate_16 : decode cXL_translate 16 = .ok (.ireturn, 1) := by decide +kernel
theorem dXL_translate_17 : decode cXL_translate 17 = .ok (.iconst 0, 1) := by decide +kernel
theorem dXL_translate_18 : decode cXL_translate 18 = .ok (.ireturn, 1) := by decide +kernel
theorem dXL_law_0 : decode code 0 = .ok (.new 8, 3) := by decide +kernel
theorem dXL_law_3 : decode code 3 = .ok (.dup, 1) := by decide +kernel
theorem dXL_law_4 : decode code 4 = .ok (.invokespecial 46, 3) := by decide +kernel
theorem dXL_law_7 : decode code 7 = .ok (.astore_n 1, 1) := by decide +kernel
theorem dXL_law_8 : decode code 8 = .ok (.new 47, 3) := by decide +kernel
theorem dXL_law_11 : decode code 11 = .ok (.dup, 1) := by decide +kernel
theorem dXL_law_12 : decode code 12 = .ok (.invokespecial 49, 3) := by decide +kernel
theorem dXL_law_15 : decode code 15 = .ok (.astore_n 2, 1) := by decide +kernel
theorem dXL_law_16 : decode code 16 = .ok (.iconst 1, 1) := by decide +kernel
theorem dXL_law_17 : decode code 17 = .ok (.newarray .long, 2) := by decide +kernel
theorem dXL_law_19 : decode code 19 = .ok (.astore_n 3, 1) := by decide +kernel
theorem dXL_law_20 : decode code 20 = .ok (.iconst 0, 1) := by decide +kernel
theorem dXL_law_21 : decode code 21 = .ok (.istore 4, 2) := by decide +kernel
theorem dXL_law_23 : decode code 23 = .ok (.iload 4, 2) := by decide +kernel
theorem dXL_law_25 : decode code 25 = .ok (.aload_n 0, 1) := by decide +kernel
theorem dXL_law_26 : decode code 26 = .ok (.arraylength, 1) := by decide +kernel
theorem dXL_law_27 : decode code 27 = .ok (.bipush 6, 2) := by decide +kernel
theorem dXL_law_29 : decode code 29 = .ok (.isub, 1) := by decide +kernel
theorem dXL_law_30 : decode code 30 = .ok (.if_icmp .gt 605, 3) := by decide +kernel
theorem dXL_law_33 : decode code 33 = .ok (.aload_n 0, 1) := by decide +kernel
theorem dXL_law_34 : decode code 34 = .ok (.iload 4, 2) := by decide +kernel
theorem dXL_law_36 : decode code 36 = .ok (.iaload, 1) := by decide +kernel
theorem dXL_law_37 : decode code 37 = .ok (.bipush 15, 2) := by decide +kernel
theorem dXL_law_39 : decode code 39 = .ok (.iand, 1) := by decide +kernel
theorem dXL_law_40 : decode code 40 = .ok (.tableswitch 589 0 9 #[56, 112, 125, 181, 229, 313, 369, 417, 473, 521], 56) := by decide +kernel
theorem dXL_law_96 : decode code 96 = .ok (.aload_n 1, 1) := by decide +kernel
theorem dXL_law_97 : decode code 97 = .ok (.aload_n 0, 1) := by decide +kernel
theorem dXL_law_98 : decode code 98 = .ok (.iload 4, 2) := by decide +kernel
theorem dXL_law_100 : decode code 100 = .ok (.iconst 1, 1) := by decide +kernel
theorem dXL_law_101 : decode code 101 = .ok (.iadd, 1) := by decide +kernel
theorem dXL_law_102 : decode code 102 = .ok (.iaload, 1) := by decide +kernel
theorem dXL_law_103 : decode code 103 = .ok (.aload_n 3, 1) := by decide +kernel
theorem dXL_law_104 : decode code 104 = .ok (.invokestatic 50, 3) := by decide +kernel
theorem dXL_law_107 : decode code 107 = .ok (.istore 5, 2) := by decide +kernel
theorem dXL_law_109 : decode code 109 = .ok (.aload_n 2, 1) := by decide +kernel
theorem dXL_law_110 : decode code 110 = .ok (.aload_n 0, 1) := by decide +kernel
theorem dXL_law_111 : decode code 111 = .ok (.iload 4, 2) := by decide +kernel
theorem dXL_law_113 : decode code 113 = .ok (.iconst 1, 1) := by decide +kernel
theorem dXL_law_114 : decode code 114 = .ok (.iadd, 1) := by decide +kernel
theorem dXL_law_115 : decode code 115 = .ok (.iaload, 1) := by decide +kernel
theorem dXL_law_116 : decode code 116 = .ok (.invokevirtual 55, 3) := by decide +kernel
theorem dXL_law_119 : decode code 119 = .ok (.istore 6, 2) := by decide +kernel
theorem dXL_law_121 : decode code 121 = .ok (.aload_n 2, 1) := by decide +kernel
theorem dXL_law_122 : decode code 122 = .ok (.invokevirtual 56, 3) := by decide +kernel
theorem dXL_law_125 : decode code 125 = .ok (.iload 5, 2) := by decide +kernel
theorem dXL_law_127 : decode code 127 = .ok (.if_icmp .eq 5, 3) := by decide +kernel
theorem dXL_law_130 : decode code 130 = .ok (.iconst 0, 1) := by decide +kernel
theorem dXL_law_131 : decode code 131 = .ok (.ireturn, 1) := by decide +kernel
theorem dXL_law_132 : decode code 132 = .ok (.iload 5, 2) := by decide +kernel
theorem dXL_law_134 : decode code 134 = .ok (.ifCond .ne 15, 3) := by decide +kernel
theorem dXL_law_137 : decode code 137 = .ok (.aload_n 3, 1) := by decide +kernel
theorem dXL_law_138 : decode code 138 = .ok (.iconst 0, 1) := by decide +kernel
theorem dXL_law_139 : decode code 139 = .ok (.laload, 1) := by decide +kernel
theorem dXL_law_140 : decode code 140 = .ok (.iload 6, 2) := by decide +kernel
theorem dXL_law_142 : decode code 142 = .ok (.i2l, 1) := by decide +kernel
theorem dXL_law_143 : decode code 143 = .ok (.lcmp, 1) := by decide +kernel
theorem dXL_law_144 : decode code 144 = .ok (.ifCond .eq 5, 3) := by decide +kernel
theorem dXL_law_147 : decode code 147 = .ok (.iconst 0, 1) := by decide +kernel
theorem dXL_law_148 : decode code 148 = .ok (.ireturn, 1) := by decide +kernel
theorem dXL_law_149 : decode code 149 = .ok (.goto 480, 3) := by decide +kernel
theorem dXL_law_152 : decode code 152 = .ok (.aload_n 1, 1) := by decide +kernel
theorem dXL_law_153 : decode code 153 = .ok (.invokevirtual 60, 3) := by decide +kernel
theorem dXL_law_156 : decode code 156 = .ok (.aload_n 2, 1) := by decide +kernel
theorem dXL_law_157 : decode code 157 = .ok (.invokevirtual 64, 3) := by decide +kernel
theorem dXL_law_160 : decode code 160 = .ok (.if_icmp .eq 469, 3) := by decide +kernel
theorem dXL_law_163 : decode code 163 = .ok (.iconst 0, 1) := by decide +kernel
theorem dXL_law_164 : decode code 164 = .ok (.ireturn, 1) := by decide +kernel
theorem dXL_law_165 : decode code 165 = .ok (.aload_n 1, 1) := by decide +kernel
theorem dXL_law_166 : decode code 166 = .ok (.aload_n 0, 1) := by decide +kernel
theorem dXL_law_167 : decode code 167 = .ok (.iload 4, 2) := by decide +kernel
theorem dXL_law_169 : decode code 169 = .ok (.iconst 1, 1) := by decide +kernel
theorem dXL_law_170 : decode code 170 = .ok (.iadd, 1) := by decide +kernel
theorem dXL_law_171 : decode code 171 = .ok (.iaload, 1) := by decide +kernel
theorem dXL_law_172 : decode code 172 = .ok (.aload_n 3, 1) := by decide +kernel
theorem dXL_law_173 : decode code 173 = .ok (.invokestatic 65, 3) := by decide +kernel
theorem dXL_law_176 : decode code 176 = .ok (.istore 5, 2) := by decide +kernel
theorem dXL_law_178 : decode code 178 = .ok (.aload_n 2, 1) := by decide +kernel
theorem dXL_law_179 : decode code 179 = .ok (.aload_n 0, 1) := by decide +kernel
theorem dXL_law_180 : decode code 180 = .ok (.iload 4, 2) := by decide +kernel
theorem dXL_law_182 : decode code 182 = .ok (.iconst 1, 1) := by decide +kernel
theorem dXL_law_183 : decode code 183 = .ok (.iadd, 1) := by decide +kernel
theorem dXL_law_184 : decode code 184 = .ok (.iaload, 1) := by decide +kernel
theorem dXL_law_185 : decode code 185 = .ok (.invokevirtual 67, 3) := by decide +kernel
theorem dXL_law_188 : decode code 188 = .ok (.istore 6, 2) := by decide +kernel
theorem dXL_law_190 : decode code 190 = .ok (.aload_n 2, 1) := by decide +kernel
theorem dXL_law_191 : decode code 191 = .ok (.invokevirtual 56, 3) := by decide +kernel
theorem dXL_law_194 : decode code 194 = .ok (.iload 5, 2) := by decide +kernel
theorem dXL_law_196 : decode code 196 = .ok (.if_icmp .eq 5, 3) := by decide +kernel
theorem dXL_law_199 : decode code 199 = .ok (.iconst 0, 1) := by decide +kernel
theorem dXL_law_200 : decode code 200 = .ok (.ireturn, 1) := by decide +kernel
theorem dXL_law_201 : decode code 201 = .ok (.iload 5, 2) := by decide +kernel
theorem dXL_law_203 : decode code 203 = .ok (.ifCond .ne 15, 3) := by decide +kernel
theorem dXL_law_206 : decode code 206 = .ok (.aload_n 3, 1) := by decide +kernel
theorem dXL_law_207 : decode code 207 = .ok (.iconst 0, 1) := by decide +kernel
theorem dXL_law_208 : decode code 208 = .ok (.laload, 1) := by decide +kernel
theorem dXL_law_209 : decode code 209 = .ok (.iload 6, 2) := by decide +kernel
theorem dXL_law_211 : decode code 211 = .ok (.i2l, 1) := by decide +kernel
theorem dXL_law_212 : decode code 212 = .ok (.lcmp, 1) := by decide +kernel
theorem dXL_law_213 : decode code 213 = .ok (.ifCond .eq 5, 3) := by decide +kernel
theorem dXL_law_216 : decode code 216 = .ok (.iconst 0, 1) := by decide +kernel
theorem dXL_law_217 : decode code 217 = .ok (.ireturn, 1) := by decide +kernel
theorem dXL_law_218 : decode code 218 = .ok (.goto 411, 3) := by decide +kernel
theorem dXL_law_221 : decode code 221 = .ok (.aload_n 1, 1) := by decide +kernel
theorem dXL_law_222 : decode code 222 = .ok (.aload_n 0, 1) := by decide +kernel
theorem dXL_law_223 : decode code 223 = .ok (.iload 4, 2) := by decide +kernel
theorem dXL_law_225 : decode code 225 = .ok (.iconst 1, 1) := by decide +kernel
theorem dXL_law_226 : decode code 226 = .ok (.iadd, 1) := by decide +kernel
theorem dXL_law_227 : decode code 227 = .ok (.iaload, 1) := by decide +kernel
theorem dXL_law_228 : decode code 228 = .ok (.aload_n 0, 1) := by decide +kernel
theorem dXL_law_229 : decode code 229 = .ok (.iload 4, 2) := by decide +kernel
theorem dXL_law_231 : decode code 231 = .ok (.iconst 2, 1) := by decide +kernel
theorem dXL_law_232 : decode code 232 = .ok (.iadd, 1) := by decide +kernel
theorem dXL_law_233 : decode code 233 = .ok (.iaload, 1) := by decide +kernel
theorem dXL_law_234 : decode code 234 = .ok (.invokestatic 68, 3) := by decide +kernel
theorem dXL_law_237 : decode code 237 = .ok (.istore 5, 2) := by decide +kernel
theorem dXL_law_239 : decode code 239 = .ok (.aload_n 2, 1) := by decide +kernel
theorem dXL_law_240 : decode code 240 = .ok (.aload_n 0, 1) := by decide +kernel
theorem dXL_law_241 : decode code 241 = .ok (.iload 4, 2) := by decide +kernel
theorem dXL_law_243 : decode code 243 = .ok (.iconst 1, 1) := by decide +kernel
theorem dXL_law_244 : decode code 244 = .ok (.iadd, 1) := by decide +kernel
theorem dXL_law_245 : decode code 245 = .ok (.iaload, 1) := by decide +kernel
theorem dXL_law_246 : decode code 246 = .ok (.aload_n 0, 1) := by decide +kernel
theorem dXL_law_247 : decode code 247 = .ok (.iload 4, 2) := by decide +kernel
theorem dXL_law_249 : decode code 249 = .ok (.iconst 2, 1) := by decide +kernel
theorem dXL_law_250 : decode code 250 = .ok (.iadd, 1) := by decide +kernel
theorem dXL_law_251 : decode code 251 = .ok (.iaload, 1) := by decide +kernel
theorem dXL_law_252 : decode code 252 = .ok (.invokevirtual 71, 3) := by decide +kernel
theorem dXL_law_255 : decode code 255 = .ok (.aload_n 2, 1) := by decide +kernel
theorem dXL_law_256 : decode code 256 = .ok (.invokevirtual 56, 3) := by decide +kernel
theorem dXL_law_259 : decode code 259 = .ok (.iload 5, 2) := by decide +kernel
theorem dXL_law_261 : decode code 261 = .ok (.if_icmp .eq 5, 3) := by decide +kernel
theorem dXL_law_264 : decode code 264 = .ok (.iconst 0, 1) := by decide +kernel
theorem dXL_law_265 : decode code 265 = .ok (.ireturn, 1) := by decide +kernel
theorem dXL_law_266 : decode code 266 = .ok (.goto 363, 3) := by decide +kernel
theorem dXL_law_269 : decode code 269 = .ok (.aload_n 1, 1) := by decide +kernel
theorem dXL_law_270 : decode code 270 = .ok (.aload_n 0, 1) := by decide +kernel
theorem dXL_law_271 : decode code 271 = .ok (.iload 4, 2) := by decide +kernel
theorem dXL_law_273 : decode code 273 = .ok (.iconst 1, 1) := by decide +kernel
theorem dXL_law_274 : decode code 274 = .ok (.iadd, 1) := by decide +kernel
theorem dXL_law_275 : decode code 275 = .ok (.iaload, 1) := by decide +kernel
theorem dXL_law_276 : decode code 276 = .ok (.aload_n 0, 1) := by decide +kernel
theorem dXL_law_277 : decode code 277 = .ok (.iload 4, 2) := by decide +kernel
theorem dXL_law_279 : decode code 279 = .ok (.iconst 2, 1) := by decide +kernel
theorem dXL_law_280 : decode code 280 = .ok (.iadd, 1) := by decide +kernel
theorem dXL_law_281 : decode code 281 = .ok (.iaload, 1) := by decide +kernel
theorem dXL_law_282 : decode code 282 = .ok (.aload_n 0, 1) := by decide +kernel
theorem dXL_law_283 : decode code 283 = .ok (.iload 4, 2) := by decide +kernel
theorem dXL_law_285 : decode code 285 = .ok (.iconst 3, 1) := by decide +kernel
theorem dXL_law_286 : decode code 286 = .ok (.iadd, 1) := by decide +kernel
theorem dXL_law_287 : decode code 287 = .ok (.iaload, 1) := by decide +kernel
theorem dXL_law_288 : decode code 288 = .ok (.aload_n 0, 1) := by decide +kernel
theorem dXL_law_289 : decode code 289 = .ok (.iload 4, 2) := by decide +kernel
theorem dXL_law_291 : decode code 291 = .ok (.iconst 4, 1) := by decide +kernel
theorem dXL_law_292 : decode code 292 = .ok (.iadd, 1) := by decide +kernel
theorem dXL_law_293 : decode code 293 = .ok (.iaload, 1) := by decide +kernel
theorem dXL_law_294 : decode code 294 = .ok (.aload_n 0, 1) := by decide +kernel
theorem dXL_law_295 : decode code 295 = .ok (.iload 4, 2) := by decide +kernel
theorem dXL_law_297 : decode code 297 = .ok (.iconst 5, 1) := by decide +kernel
theorem dXL_law_298 : decode code 298 = .ok (.iadd, 1) := by decide +kernel
theorem dXL_law_299 : decode code 299 = .ok (.iaload, 1) := by decide +kernel
theorem dXL_law_300 : decode code 300 = .ok (.invokestatic 72, 3) := by decide +kernel
theorem dXL_law_303 : decode code 303 = .ok (.istore 5, 2) := by decide +kernel
theorem dXL_law_305 : decode code 305 = .ok (.aload_n 2, 1) := by decide +kernel
theorem dXL_law_306 : decode code 306 = .ok (.aload_n 0, 1) := by decide +kernel
theorem dXL_law_307 : decode code 307 = .ok (.iload 4, 2) := by decide +kernel
theorem dXL_law_309 : decode code 309 = .ok (.iconst 1, 1) := by decide +kernel
theorem dXL_law_310 : decode code 310 = .ok (.iadd, 1) := by decide +kernel
theorem dXL_law_311 : decode code 311 = .ok (.iaload, 1) := by decide +kernel
theorem dXL_law_312 : decode code 312 = .ok (.aload_n 0, 1) := by decide +kernel
theorem dXL_law_313 : decode code 313 = .ok (.iload 4, 2) := by decide +kernel
theorem dXL_law_315 : decode code 315 = .ok (.iconst 2, 1) := by decide +kernel
theorem dXL_law_316 : decode code 316 = .ok (.iadd, 1) := by decide +kernel
theorem dXL_law_317 : decode code 317 = .ok (.iaload, 1) := by decide +kernel
theorem dXL_law_318 : decode code 318 = .ok (.aload_n 0, 1) := by decide +kernel
theorem dXL_law_319 : decode code 319 = .ok (.iload 4, 2) := by decide +kernel
theorem dXL_law_321 : decode code 321 = .ok (.iconst 3, 1) := by decide +kernel
theorem dXL_law_322 : decode code 322 = .ok (.iadd, 1) := by decide +kernel
theorem dXL_law_323 : decode code 323 = .ok (.iaload, 1) := by decide +kernel
theorem dXL_law_324 : decode code 324 = .ok (.aload_n 0, 1) := by decide +kernel
theorem dXL_law_325 : decode code 325 = .ok (.iload 4, 2) := by decide +kernel
theorem dXL_law_327 : decode code 327 = .ok (.iconst 4, 1) := by decide +kernel
theorem dXL_law_328 : decode code 328 = .ok (.iadd, 1) := by decide +kernel
theorem dXL_law_329 : decode code 329 = .ok (.iaload, 1) := by decide +kernel
theorem dXL_law_330 : decode code 330 = .ok (.aload_n 0, 1) := by decide +kernel
theorem dXL_law_331 : decode code 331 = .ok (.iload 4, 2) := by decide +kernel
theorem dXL_law_333 : decode code 333 = .ok (.iconst 5, 1) := by decide +kernel
theorem dXL_law_334 : decode code 334 = .ok (.iadd, 1) := by decide +kernel
theorem dXL_law_335 : decode code 335 = .ok (.iaload, 1) := by decide +kernel
theorem dXL_law_336 : decode code 336 = .ok (.invokevirtual 75, 3) := by decide +kernel
theorem dXL_law_339 : decode code 339 = .ok (.aload_n 2, 1) := by decide +kernel
theorem dXL_law_340 : decode code 340 = .ok (.invokevirtual 56, 3) := by decide +kernel
theorem dXL_law_343 : decode code 343 = .ok (.iload 5, 2) := by decide +kernel
theorem dXL_law_345 : decode code 345 = .ok (.if_icmp .eq 5, 3) := by decide +kernel
theorem dXL_law_348 : decode code 348 = .ok (.iconst 0, 1) := by decide +kernel
theorem dXL_law_349 : decode code 349 = .ok (.ireturn, 1) := by decide +kernel
theorem dXL_law_350 : decode code 350 = .ok (.goto 279, 3) := by decide +kernel
theorem dXL_law_353 : decode code 353 = .ok (.aload_n 1, 1) := by decide +kernel
theorem dXL_law_354 : decode code 354 = .ok (.aload_n 0, 1) := by decide +kernel
theorem dXL_law_355 : decode code 355 = .ok (.iload 4, 2) := by decide +kernel
theorem dXL_law_357 : decode code 357 = .ok (.iconst 1, 1) := by decide +kernel
theorem dXL_law_358 : decode code 358 = .ok (.iadd, 1) := by decide +kernel
theorem dXL_law_359 : decode code 359 = .ok (.iaload, 1) := by decide +kernel
theorem dXL_law_360 : decode code 360 = .ok (.aload_n 3, 1) := by decide +kernel
theorem dXL_law_361 : decode code 361 = .ok (.invokestatic 76, 3) := by decide +kernel
theorem dXL_law_364 : decode code 364 = .ok (.istore 5, 2) := by decide +kernel
theorem dXL_law_366 : decode code 366 = .ok (.aload_n 2, 1) := by decide +kernel
theorem dXL_law_367 : decode code 367 = .ok (.aload_n 0, 1) := by decide +kernel
theorem dXL_law_368 : decode code 368 = .ok (.iload 4, 2) := by decide +kernel
theorem dXL_law_370 : decode code 370 = .ok (.iconst 1, 1) := by decide +kernel
theorem dXL_law_371 : decode code 371 = .ok (.iadd, 1) := by decide +kernel
theorem dXL_law_372 : decode code 372 = .ok (.iaload, 1) := by decide +kernel
theorem dXL_law_373 : decode code 373 = .ok (.invokevirtual 78, 3) := by decide +kernel
theorem dXL_law_376 : decode code 376 = .ok (.istore 6, 2) := by decide +kernel
theorem dXL_law_378 : decode code 378 = .ok (.aload_n 2, 1) := by decide +kernel
theorem dXL_law_379 : decode code 379 = .ok (.invokevirtual 56, 3) := by decide +kernel
theorem dXL_law_382 : decode code 382 = .ok (.iload 5, 2) := by decide +kernel
theorem dXL_law_384 : decode code 384 = .ok (.if_icmp .eq 5, 3) := by decide +kernel
theorem dXL_law_387 : decode code 387 = .ok (.iconst 0, 1) := by decide +kernel
theorem dXL_law_388 : decode code 388 = .ok (.ireturn, 1) := by decide +kernel
theorem dXL_law_389 : decode code 389 = .ok (.iload 5, 2) := by decide +kernel
theorem dXL_law_391 : decode code 391 = .ok (.ifCond .ne 15, 3) := by decide +kernel
theorem dXL_law_394 : decode code 394 = .ok (.aload_n 3, 1) := by decide +kernel
theorem dXL_law_395 : decode code 395 = .ok (.iconst 0, 1) := by decide +kernel
theorem dXL_law_396 : decode code 396 = .ok (.laload, 1) := by decide +kernel
theorem dXL_law_397 : decode code 397 = .ok (.iload 6, 2) := by decide +kernel
theorem dXL_law_399 : decode code 399 = .ok (.i2l, 1) := by decide +kernel
theorem dXL_law_400 : decode code 400 = .ok (.lcmp, 1) := by decide +kernel
theorem dXL_law_401 : decode code 401 = .ok (.ifCond .eq 5, 3) := by decide +kernel
theorem dXL_law_404 : decode code 404 = .ok (.iconst 0, 1) := by decide +kernel
theorem dXL_law_405 : decode code 405 = .ok (.ireturn, 1) := by decide +kernel
theorem dXL_law_406 : decode code 406 = .ok (.goto 223, 3) := by decide +kernel
theorem dXL_law_409 : decode code 409 = .ok (.aload_n 1, 1) := by decide +kernel
theorem dXL_law_410 : decode code 410 = .ok (.aload_n 0, 1) := by decide +kernel
theorem dXL_law_411 : decode code 411 = .ok (.iload 4, 2) := by decide +kernel
theorem dXL_law_413 : decode code 413 = .ok (.iconst 1, 1) := by decide +kernel
theorem dXL_law_414 : decode code 414 = .ok (.iadd, 1) := by decide +kernel
theorem dXL_law_415 : decode code 415 = .ok (.iaload, 1) := by decide +kernel
theorem dXL_law_416 : decode code 416 = .ok (.aload_n 0, 1) := by decide +kernel
theorem dXL_law_417 : decode code 417 = .ok (.iload 4, 2) := by decide +kernel
theorem dXL_law_419 : decode code 419 = .ok (.iconst 2, 1) := by decide +kernel
theorem dXL_law_420 : decode code 420 = .ok (.iadd, 1) := by decide +kernel
theorem dXL_law_421 : decode code 421 = .ok (.iaload, 1) := by decide +kernel
theorem dXL_law_422 : decode code 422 = .ok (.invokestatic 79, 3) := by decide +kernel
theorem dXL_law_425 : decode code 425 = .ok (.istore 5, 2) := by decide +kernel
theorem dXL_law_427 : decode code 427 = .ok (.aload_n 2, 1) := by decide +kernel
theorem dXL_law_428 : decode code 428 = .ok (.aload_n 0, 1) := by decide +kernel
theorem dXL_law_429 : decode code 429 = .ok (.iload 4, 2) := by decide +kernel
theorem dXL_law_431 : decode code 431 = .ok (.iconst 1, 1) := by decide +kernel
theorem dXL_law_432 : decode code 432 = .ok (.iadd, 1) := by decide +kernel
theorem dXL_law_433 : decode code 433 = .ok (.iaload, 1) := by decide +kernel
theorem dXL_law_434 : decode code 434 = .ok (.aload_n 0, 1) := by decide +kernel
theorem dXL_law_435 : decode code 435 = .ok (.iload 4, 2) := by decide +kernel
theorem dXL_law_437 : decode code 437 = .ok (.iconst 2, 1) := by decide +kernel
theorem dXL_law_438 : decode code 438 = .ok (.iadd, 1) := by decide +kernel
theorem dXL_law_439 : decode code 439 = .ok (.iaload, 1) := by decide +kernel
theorem dXL_law_440 : decode code 440 = .ok (.invokevirtual 81, 3) := by decide +kernel
theorem dXL_law_443 : decode code 443 = .ok (.aload_n 2, 1) := by decide +kernel
theorem dXL_law_444 : decode code 444 = .ok (.invokevirtual 56, 3) := by decide +kernel
theorem dXL_law_447 : decode code 447 = .ok (.iload 5, 2) := by decide +kernel
theorem dXL_law_449 : decode code 449 = .ok (.if_icmp .eq 5, 3) := by decide +kernel
theorem dXL_law_452 : decode code 452 = .ok (.iconst 0, 1) := by decide +kernel
theorem dXL_law_453 : decode code 453 = .ok (.ireturn, 1) := by decide +kernel
theorem dXL_law_454 : decode code 454 = .ok (.goto 175, 3) := by decide +kernel
theorem dXL_law_457 : decode code 457 = .ok (.aload_n 1, 1) := by decide +kernel
theorem dXL_law_458 : decode code 458 = .ok (.aload_n 0, 1) := by decide +kernel
theorem dXL_law_459 : decode code 459 = .ok (.iload 4, 2) := by decide +kernel
theorem dXL_law_461 : decode code 461 = .ok (.iconst 1, 1) := by decide +kernel
theorem dXL_law_462 : decode code 462 = .ok (.iadd, 1) := by decide +kernel
theorem dXL_law_463 : decode code 463 = .ok (.iaload, 1) := by decide +kernel
theorem dXL_law_464 : decode code 464 = .ok (.aload_n 3, 1) := by decide +kernel
theorem dXL_law_465 : decode code 465 = .ok (.invokestatic 82, 3) := by decide +kernel
theorem dXL_law_468 : decode code 468 = .ok (.istore 5, 2) := by decide +kernel
theorem dXL_law_470 : decode code 470 = .ok (.aload_n 2, 1) := by decide +kernel
theorem dXL_law_471 : decode code 471 = .ok (.aload_n 0, 1) := by decide +kernel
theorem dXL_law_472 : decode code 472 = .ok (.iload 4, 2) := by decide +kernel
theorem dXL_law_474 : decode code 474 = .ok (.iconst 1, 1) := by decide +kernel
theorem dXL_law_475 : decode code 475 = .ok (.iadd, 1) := by decide +kernel
theorem dXL_law_476 : decode code 476 = .ok (.iaload, 1) := by decide +kernel
theorem dXL_law_477 : decode code 477 = .ok (.invokevirtual 84, 3) := by decide +kernel
theorem dXL_law_480 : decode code 480 = .ok (.istore 6, 2) := by decide +kernel
theorem dXL_law_482 : decode code 482 = .ok (.aload_n 2, 1) := by decide +kernel
theorem dXL_law_483 : decode code 483 = .ok (.invokevirtual 56, 3) := by decide +kernel
theorem dXL_law_486 : decode code 486 = .ok (.iload 5, 2) := by decide +kernel
theorem dXL_law_488 : decode code 488 = .ok (.if_icmp .eq 5, 3) := by decide +kernel
theorem dXL_law_491 : decode code 491 = .ok (.iconst 0, 1) := by decide +kernel
theorem dXL_law_492 : decode code 492 = .ok (.ireturn, 1) := by decide +kernel
theorem dXL_law_493 : decode code 493 = .ok (.iload 5, 2) := by decide +kernel
theorem dXL_law_495 : decode code 495 = .ok (.ifCond .ne 15, 3) := by decide +kernel
theorem dXL_law_498 : decode code 498 = .ok (.aload_n 3, 1) := by decide +kernel
theorem dXL_law_499 : decode code 499 = .ok (.iconst 0, 1) := by decide +kernel
theorem dXL_law_500 : decode code 500 = .ok (.laload, 1) := by decide +kernel
theorem dXL_law_501 : decode code 501 = .ok (.iload 6, 2) := by decide +kernel
theorem dXL_law_503 : decode code 503 = .ok (.i2l, 1) := by decide +kernel
theorem dXL_law_504 : decode code 504 = .ok (.lcmp, 1) := by decide +kernel
theorem dXL_law_505 : decode code 505 = .ok (.ifCond .eq 5, 3) := by decide +kernel
theorem dXL_law_508 : decode code 508 = .ok (.iconst 0, 1) := by decide +kernel
theorem dXL_law_509 : decode code 509 = .ok (.ireturn, 1) := by decide +kernel
theorem dXL_law_510 : decode code 510 = .ok (.goto 119, 3) := by decide +kernel
theorem dXL_law_513 : decode code 513 = .ok (.aload_n 1, 1) := by decide +kernel
theorem dXL_law_514 : decode code 514 = .ok (.aload_n 0, 1) := by decide +kernel
theorem dXL_law_515 : decode code 515 = .ok (.iload 4, 2) := by decide +kernel
theorem dXL_law_517 : decode code 517 = .ok (.iconst 1, 1) := by decide +kernel
theorem dXL_law_518 : decode code 518 = .ok (.iadd, 1) := by decide +kernel
theorem dXL_law_519 : decode code 519 = .ok (.iaload, 1) := by decide +kernel
theorem dXL_law_520 : decode code 520 = .ok (.aload_n 0, 1) := by decide +kernel
theorem dXL_law_521 : decode code 521 = .ok (.iload 4, 2) := by decide +kernel
theorem dXL_law_523 : decode code 523 = .ok (.iconst 2, 1) := by decide +kernel
theorem dXL_law_524 : decode code 524 = .ok (.iadd, 1) := by decide +kernel
theorem dXL_law_525 : decode code 525 = .ok (.iaload, 1) := by decide +kernel
theorem dXL_law_526 : decode code 526 = .ok (.invokestatic 85, 3) := by decide +kernel
theorem dXL_law_529 : decode code 529 = .ok (.istore 5, 2) := by decide +kernel
theorem dXL_law_531 : decode code 531 = .ok (.aload_n 2, 1) := by decide +kernel
theorem dXL_law_532 : decode code 532 = .ok (.aload_n 0, 1) := by decide +kernel
theorem dXL_law_533 : decode code 533 = .ok (.iload 4, 2) := by decide +kernel
theorem dXL_law_535 : decode code 535 = .ok (.iconst 1, 1) := by decide +kernel
theorem dXL_law_536 : decode code 536 = .ok (.iadd, 1) := by decide +kernel
theorem dXL_law_537 : decode code 537 = .ok (.iaload, 1) := by decide +kernel
theorem dXL_law_538 : decode code 538 = .ok (.aload_n 0, 1) := by decide +kernel
theorem dXL_law_539 : decode code 539 = .ok (.iload 4, 2) := by decide +kernel
theorem dXL_law_541 : decode code 541 = .ok (.iconst 2, 1) := by decide +kernel
theorem dXL_law_542 : decode code 542 = .ok (.iadd, 1) := by decide +kernel
theorem dXL_law_543 : decode code 543 = .ok (.iaload, 1) := by decide +kernel
theorem dXL_law_544 : decode code 544 = .ok (.invokevirtual 87, 3) := by decide +kernel
theorem dXL_law_547 : decode code 547 = .ok (.aload_n 2, 1) := by decide +kernel
theorem dXL_law_548 : decode code 548 = .ok (.invokevirtual 56, 3) := by decide +kernel
theorem dXL_law_551 : decode code 551 = .ok (.iload 5, 2) := by decide +kernel
theorem dXL_law_553 : decode code 553 = .ok (.if_icmp .eq 5, 3) := by decide +kernel
theorem dXL_law_556 : decode code 556 = .ok (.iconst 0, 1) := by decide +kernel
theorem dXL_law_557 : decode code 557 = .ok (.ireturn, 1) := by decide +kernel
theorem dXL_law_558 : decode code 558 = .ok (.goto 71, 3) := by decide +kernel
theorem dXL_law_561 : decode code 561 = .ok (.aload_n 1, 1) := by decide +kernel
theorem dXL_law_562 : decode code 562 = .ok (.aload_n 0, 1) := by decide +kernel
theorem dXL_law_563 : decode code 563 = .ok (.iload 4, 2) := by decide +kernel
theorem dXL_law_565 : decode code 565 = .ok (.iconst 1, 1) := by decide +kernel
theorem dXL_law_566 : decode code 566 = .ok (.iadd, 1) := by decide +kernel
theorem dXL_law_567 : decode code 567 = .ok (.iaload, 1) := by decide +kernel
theorem dXL_law_568 : decode code 568 = .ok (.aload_n 0, 1) := by decide +kernel
theorem dXL_law_569 : decode code 569 = .ok (.iload 4, 2) := by decide +kernel
theorem dXL_law_571 : decode code 571 = .ok (.iconst 2, 1) := by decide +kernel
theorem dXL_law_572 : decode code 572 = .ok (.iadd, 1) := by decide +kernel
theorem dXL_law_573 : decode code 573 = .ok (.iaload, 1) := by decide +kernel
theorem dXL_law_574 : decode code 574 = .ok (.aload_n 3, 1) := by decide +kernel
theorem dXL_law_575 : decode code 575 = .ok (.invokestatic 88, 3) := by decide +kernel
theorem dXL_law_578 : decode code 578 = .ok (.istore 5, 2) := by decide +kernel
theorem dXL_law_580 : decode code 580 = .ok (.aload_n 2, 1) := by decide +kernel
theorem dXL_law_581 : decode code 581 = .ok (.aload_n 0, 1) := by decide +kernel
theorem dXL_law_582 : decode code 582 = .ok (.iload 4, 2) := by decide +kernel
theorem dXL_law_584 : decode code 584 = .ok (.iconst 1, 1) := by decide +kernel
theorem dXL_law_585 : decode code 585 = .ok (.iadd, 1) := by decide +kernel
theorem dXL_law_586 : decode code 586 = .ok (.iaload, 1) := by decide +kernel
theorem dXL_law_587 : decode code 587 = .ok (.aload_n 0, 1) := by decide +kernel
theorem dXL_law_588 : decode code 588 = .ok (.iload 4, 2) := by decide +kernel
theorem dXL_law_590 : decode code 590 = .ok (.iconst 2, 1) := by decide +kernel
theorem dXL_law_591 : decode code 591 = .ok (.iadd, 1) := by decide +kernel
theorem dXL_law_592 : decode code 592 = .ok (.iaload, 1) := by decide +kernel
theorem dXL_law_593 : decode code 593 = .ok (.invokevirtual 91, 3) := by decide +kernel
theorem dXL_law_596 : decode code 596 = .ok (.istore 6, 2) := by decide +kernel
theorem dXL_law_598 : decode code 598 = .ok (.aload_n 2, 1) := by decide +kernel
theorem dXL_law_599 : decode code 599 = .ok (.invokevirtual 56, 3) := by decide +kernel
theorem dXL_law_602 : decode code 602 = .ok (.iload 5, 2) := by decide +kernel
theorem dXL_law_604 : decode code 604 = .ok (.if_icmp .eq 5, 3) := by decide +kernel
theorem dXL_law_607 : decode code 607 = .ok (.iconst 0, 1) := by decide +kernel
theorem dXL_law_608 : decode code 608 = .ok (.ireturn, 1) := by decide +kernel
theorem dXL_law_609 : decode code 609 = .ok (.iload 5, 2) := by decide +kernel
theorem dXL_law_611 : decode code 611 = .ok (.ifCond .ne 15, 3) := by decide +kernel
theorem dXL_law_614 : decode code 614 = .ok (.aload_n 3, 1) := by decide +kernel
theorem dXL_law_615 : decode code 615 = .ok (.iconst 0, 1) := by decide +kernel
theorem dXL_law_616 : decode code 616 = .ok (.laload, 1) := by decide +kernel
theorem dXL_law_617 : decode code 617 = .ok (.iload 6, 2) := by decide +kernel
theorem dXL_law_619 : decode code 619 = .ok (.i2l, 1) := by decide +kernel
theorem dXL_law_620 : decode code 620 = .ok (.lcmp, 1) := by decide +kernel
theorem dXL_law_621 : decode code 621 = .ok (.ifCond .eq 5, 3) := by decide +kernel
theorem dXL_law_624 : decode code 624 = .ok (.iconst 0, 1) := by decide +kernel
theorem dXL_law_625 : decode code 625 = .ok (.ireturn, 1) := by decide +kernel
theorem dXL_law_626 : decode code 626 = .ok (.goto 3, 3) := by decide +kernel
theorem dXL_law_629 : decode code 629 = .ok (.iinc 4 6, 3) := by decide +kernel
theorem dXL_law_632 : decode code 632 = .ok (.goto (-609), 3) := by decide +kernel
theorem dXL_law_635 : decode code 635 = .ok (.iconst 1, 1) := by decide +kernel
theorem dXL_law_636 : decode code 636 = .ok (.ireturn, 1) := by decide +kernel
