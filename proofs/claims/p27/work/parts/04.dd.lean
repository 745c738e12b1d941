theorem dL_begin_0 : decode cL_begin 0 = .ok (.aload_n 0, 1) := by decide +kernel
theorem dL_begin_1 : decode cL_begin 1 = .ok (.iload_n 1, 1) := by decide +kernel
theorem dL_begin_2 : decode cL_begin 2 = .ok (.invokevirtual 7, 3) := by decide +kernel
theorem dL_begin_5 : decode cL_begin 5 = .ok (.iconst 0, 1) := by decide +kernel
theorem dL_begin_6 : decode cL_begin 6 = .ok (.ireturn, 1) := by decide +kernel
theorem dL_begin_7 : decode cL_begin 7 = .ok (.astore_n 2, 1) := by decide +kernel
theorem dL_begin_8 : decode cL_begin 8 = .ok (.bipush (-12), 2) := by decide +kernel
theorem dL_begin_10 : decode cL_begin 10 = .ok (.ireturn, 1) := by decide +kernel
theorem dL_holds_0 : decode cL_holds 0 = .ok (.aload_n 0, 1) := by decide +kernel
theorem dL_holds_1 : decode cL_holds 1 = .ok (.iload_n 1, 1) := by decide +kernel
theorem dL_holds_2 : decode cL_holds 2 = .ok (.invokevirtual 15, 3) := by decide +kernel
theorem dL_holds_5 : decode cL_holds 5 = .ok (.iconst 0, 1) := by decide +kernel
theorem dL_holds_6 : decode cL_holds 6 = .ok (.ireturn, 1) := by decide +kernel
theorem dL_holds_7 : decode cL_holds 7 = .ok (.astore_n 2, 1) := by decide +kernel
theorem dL_holds_8 : decode cL_holds 8 = .ok (.bipush (-11), 2) := by decide +kernel
theorem dL_holds_10 : decode cL_holds 10 = .ok (.ireturn, 1) := by decide +kernel
theorem dL_holds_11 : decode cL_holds 11 = .ok (.astore_n 2, 1) := by decide +kernel
theorem dL_holds_12 : decode cL_holds 12 = .ok (.bipush (-13), 2) := by decide +kernel
theorem dL_holds_14 : decode cL_holds 14 = .ok (.ireturn, 1) := by decide +kernel
theorem dL_thaws_0 : decode cL_thaws 0 = .ok (.aload_n 0, 1) := by decide +kernel
theorem dL_thaws_1 : decode cL_thaws 1 = .ok (.iload_n 1, 1) := by decide +kernel
theorem dL_thaws_2 : decode cL_thaws 2 = .ok (.invokevirtual 22, 3) := by decide +kernel
theorem dL_thaws_5 : decode cL_thaws 5 = .ok (.iconst 0, 1) := by decide +kernel
theorem dL_thaws_6 : decode cL_thaws 6 = .ok (.ireturn, 1) := by decide +kernel
theorem dL_thaws_7 : decode cL_thaws 7 = .ok (.astore_n 2, 1) := by decide +kernel
theorem dL_thaws_8 : decode cL_thaws 8 = .ok (.bipush (-11), 2) := by decide +kernel
theorem dL_thaws_10 : decode cL_thaws 10 = .ok (.ireturn, 1) := by decide +kernel
theorem dL_thaws_11 : decode cL_thaws 11 = .ok (.astore_n 2, 1) := by decide +kernel
theorem dL_thaws_12 : decode cL_thaws 12 = .ok (.bipush (-13), 2) := by decide +kernel
theorem dL_thaws_14 : decode cL_thaws 14 = .ok (.ireturn, 1) := by decide +kernel
theorem dL_act_0 : decode cL_act 0 = .ok (.iload_n 1, 1) := by decide +kernel
theorem dL_act_1 : decode cL_act 1 = .ok (.ifCond .ne 20, 3) := by decide +kernel
theorem dL_act_4 : decode cL_act 4 = .ok (.aload_n 0, 1) := by decide +kernel
theorem dL_act_5 : decode cL_act 5 = .ok (.iload_n 2, 1) := by decide +kernel
theorem dL_act_6 : decode cL_act 6 = .ok (.invokevirtual 25, 3) := by decide +kernel
theorem dL_act_9 : decode cL_act 9 = .ok (.ifCond .eq 7, 3) := by decide +kernel
theorem dL_act_12 : decode cL_act 12 = .ok (.iconst 1, 1) := by decide +kernel
theorem dL_act_13 : decode cL_act 13 = .ok (.goto 4, 3) := by decide +kernel
theorem dL_act_16 : decode cL_act 16 = .ok (.iconst 0, 1) := by decide +kernel
theorem dL_act_17 : decode cL_act 17 = .ok (.i2l, 1) := by decide +kernel
theorem dL_act_18 : decode cL_act 18 = .ok (.goto 284, 3) := by decide +kernel
theorem dL_act_21 : decode cL_act 21 = .ok (.iload_n 1, 1) := by decide +kernel
theorem dL_act_22 : decode cL_act 22 = .ok (.iconst 1, 1) := by decide +kernel
theorem dL_act_23 : decode cL_act 23 = .ok (.if_icmp .ne 11, 3) := by decide +kernel
theorem dL_act_26 : decode cL_act 26 = .ok (.aload_n 0, 1) := by decide +kernel
theorem dL_act_27 : decode cL_act 27 = .ok (.invokevirtual 29, 3) := by decide +kernel
theorem dL_act_30 : decode cL_act 30 = .ok (.i2l, 1) := by decide +kernel
theorem dL_act_31 : decode cL_act 31 = .ok (.goto 271, 3) := by decide +kernel
theorem dL_act_34 : decode cL_act 34 = .ok (.iload_n 1, 1) := by decide +kernel
theorem dL_act_35 : decode cL_act 35 = .ok (.iconst 2, 1) := by decide +kernel
theorem dL_act_36 : decode cL_act 36 = .ok (.if_icmp .ne 13, 3) := by decide +kernel
theorem dL_act_39 : decode cL_act 39 = .ok (.aload_n 0, 1) := by decide +kernel
theorem dL_act_40 : decode cL_act 40 = .ok (.iload_n 2, 1) := by decide +kernel
theorem dL_act_41 : decode cL_act 41 = .ok (.iload_n 3, 1) := by decide +kernel
theorem dL_act_42 : decode cL_act 42 = .ok (.invokevirtual 33, 3) := by decide +kernel
theorem dL_act_45 : decode cL_act 45 = .ok (.i2l, 1) := by decide +kernel
theorem dL_act_46 : decode cL_act 46 = .ok (.goto 256, 3) := by decide +kernel
theorem dL_act_49 : decode cL_act 49 = .ok (.iload_n 1, 1) := by decide +kernel
theorem dL_act_50 : decode cL_act 50 = .ok (.iconst 3, 1) := by decide +kernel
theorem dL_act_51 : decode cL_act 51 = .ok (.if_icmp .ne 12, 3) := by decide +kernel
theorem dL_act_54 : decode cL_act 54 = .ok (.aload_n 0, 1) := by decide +kernel
theorem dL_act_55 : decode cL_act 55 = .ok (.iload_n 2, 1) := by decide +kernel
theorem dL_act_56 : decode cL_act 56 = .ok (.invokevirtual 37, 3) := by decide +kernel
theorem dL_act_59 : decode cL_act 59 = .ok (.i2l, 1) := by decide +kernel
theorem dL_act_60 : decode cL_act 60 = .ok (.goto 242, 3) := by decide +kernel
theorem dL_act_63 : decode cL_act 63 = .ok (.iload_n 1, 1) := by decide +kernel
theorem dL_act_64 : decode cL_act 64 = .ok (.iconst 4, 1) := by decide +kernel
theorem dL_act_65 : decode cL_act 65 = .ok (.if_icmp .ne 12, 3) := by decide +kernel
theorem dL_act_68 : decode cL_act 68 = .ok (.aload_n 0, 1) := by decide +kernel
theorem dL_act_69 : decode cL_act 69 = .ok (.iload_n 2, 1) := by decide +kernel
theorem dL_act_70 : decode cL_act 70 = .ok (.invokevirtual 41, 3) := by decide +kernel
theorem dL_act_73 : decode cL_act 73 = .ok (.i2l, 1) := by decide +kernel
theorem dL_act_74 : decode cL_act 74 = .ok (.goto 228, 3) := by decide +kernel
theorem dL_act_77 : decode cL_act 77 = .ok (.iload_n 1, 1) := by decide +kernel
theorem dL_act_78 : decode cL_act 78 = .ok (.iconst 5, 1) := by decide +kernel
theorem dL_act_79 : decode cL_act 79 = .ok (.if_icmp .ne 12, 3) := by decide +kernel
theorem dL_act_82 : decode cL_act 82 = .ok (.aload_n 0, 1) := by decide +kernel
theorem dL_act_83 : decode cL_act 83 = .ok (.iload_n 2, 1) := by decide +kernel
theorem dL_act_84 : decode cL_act 84 = .ok (.invokevirtual 44, 3) := by decide +kernel
theorem dL_act_87 : decode cL_act 87 = .ok (.i2l, 1) := by decide +kernel
theorem dL_act_88 : decode cL_act 88 = .ok (.goto 214, 3) := by decide +kernel
theorem dL_act_91 : decode cL_act 91 = .ok (.iload_n 1, 1) := by decide +kernel
theorem dL_act_92 : decode cL_act 92 = .ok (.bipush 6, 2) := by decide +kernel
theorem dL_act_94 : decode cL_act 94 = .ok (.if_icmp .ne 12, 3) := by decide +kernel
theorem dL_act_97 : decode cL_act 97 = .ok (.aload_n 0, 1) := by decide +kernel
theorem dL_act_98 : decode cL_act 98 = .ok (.iload_n 2, 1) := by decide +kernel
theorem dL_act_99 : decode cL_act 99 = .ok (.invokevirtual 47, 3) := by decide +kernel
theorem dL_act_102 : decode cL_act 102 = .ok (.i2l, 1) := by decide +kernel
theorem dL_act_103 : decode cL_act 103 = .ok (.goto 199, 3) := by decide +kernel
theorem dL_act_106 : decode cL_act 106 = .ok (.iload_n 1, 1) := by decide +kernel
theorem dL_act_107 : decode cL_act 107 = .ok (.bipush 7, 2) := by decide +kernel
theorem dL_act_109 : decode cL_act 109 = .ok (.if_icmp .ne 12, 3) := by decide +kernel
theorem dL_act_112 : decode cL_act 112 = .ok (.aload_n 0, 1) := by decide +kernel
theorem dL_act_113 : decode cL_act 113 = .ok (.iload_n 2, 1) := by decide +kernel
theorem dL_act_114 : decode cL_act 114 = .ok (.invokevirtual 50, 3) := by decide +kernel
theorem dL_act_117 : decode cL_act 117 = .ok (.i2l, 1) := by decide +kernel
theorem dL_act_118 : decode cL_act 118 = .ok (.goto 184, 3) := by decide +kernel
theorem dL_act_121 : decode cL_act 121 = .ok (.iload_n 1, 1) := by decide +kernel
theorem dL_act_122 : decode cL_act 122 = .ok (.bipush 8, 2) := by decide +kernel
theorem dL_act_124 : decode cL_act 124 = .ok (.if_icmp .ne 12, 3) := by decide +kernel
theorem dL_act_127 : decode cL_act 127 = .ok (.aload_n 0, 1) := by decide +kernel
theorem dL_act_128 : decode cL_act 128 = .ok (.iload_n 2, 1) := by decide +kernel
theorem dL_act_129 : decode cL_act 129 = .ok (.invokevirtual 53, 3) := by decide +kernel
theorem dL_act_132 : decode cL_act 132 = .ok (.i2l, 1) := by decide +kernel
theorem dL_act_133 : decode cL_act 133 = .ok (.goto 169, 3) := by decide +kernel
theorem dL_act_136 : decode cL_act 136 = .ok (.iload_n 1, 1) := by decide +kernel
theorem dL_act_137 : decode cL_act 137 = .ok (.bipush 9, 2) := by decide +kernel
theorem dL_act_139 : decode cL_act 139 = .ok (.if_icmp .ne 12, 3) := by decide +kernel
theorem dL_act_142 : decode cL_act 142 = .ok (.aload_n 0, 1) := by decide +kernel
theorem dL_act_143 : decode cL_act 143 = .ok (.iload_n 2, 1) := by decide +kernel
theorem dL_act_144 : decode cL_act 144 = .ok (.invokevirtual 56, 3) := by decide +kernel
theorem dL_act_147 : decode cL_act 147 = .ok (.i2l, 1) := by decide +kernel
theorem dL_act_148 : decode cL_act 148 = .ok (.goto 154, 3) := by decide +kernel
theorem dL_act_151 : decode cL_act 151 = .ok (.iload_n 1, 1) := by decide +kernel
theorem dL_act_152 : decode cL_act 152 = .ok (.bipush 10, 2) := by decide +kernel
theorem dL_act_154 : decode cL_act 154 = .ok (.if_icmp .ne 12, 3) := by decide +kernel
theorem dL_act_157 : decode cL_act 157 = .ok (.aload_n 0, 1) := by decide +kernel
theorem dL_act_158 : decode cL_act 158 = .ok (.iload_n 2, 1) := by decide +kernel
theorem dL_act_159 : decode cL_act 159 = .ok (.invokevirtual 59, 3) := by decide +kernel
theorem dL_act_162 : decode cL_act 162 = .ok (.i2l, 1) := by decide +kernel
theorem dL_act_163 : decode cL_act 163 = .ok (.goto 139, 3) := by decide +kernel
theorem dL_act_166 : decode cL_act 166 = .ok (.iload_n 1, 1) := by decide +kernel
theorem dL_act_167 : decode cL_act 167 = .ok (.bipush 11, 2) := by decide +kernel
theorem dL_act_169 : decode cL_act 169 = .ok (.if_icmp .ne 12, 3) := by decide +kernel
theorem dL_act_172 : decode cL_act 172 = .ok (.aload_n 0, 1) := by decide +kernel
theorem dL_act_173 : decode cL_act 173 = .ok (.iload_n 2, 1) := by decide +kernel
theorem dL_act_174 : decode cL_act 174 = .ok (.invokevirtual 62, 3) := by decide +kernel
theorem dL_act_177 : decode cL_act 177 = .ok (.i2l, 1) := by decide +kernel
theorem dL_act_178 : decode cL_act 178 = .ok (.goto 124, 3) := by decide +kernel
theorem dL_act_181 : decode cL_act 181 = .ok (.iload_n 1, 1) := by decide +kernel
theorem dL_act_182 : decode cL_act 182 = .ok (.bipush 12, 2) := by decide +kernel
theorem dL_act_184 : decode cL_act 184 = .ok (.if_icmp .ne 13, 3) := by decide +kernel
theorem dL_act_187 : decode cL_act 187 = .ok (.aload_n 0, 1) := by decide +kernel
theorem dL_act_188 : decode cL_act 188 = .ok (.iload_n 2, 1) := by decide +kernel
theorem dL_act_189 : decode cL_act 189 = .ok (.iload_n 3, 1) := by decide +kernel
theorem dL_act_190 : decode cL_act 190 = .ok (.invokevirtual 65, 3) := by decide +kernel
theorem dL_act_193 : decode cL_act 193 = .ok (.i2l, 1) := by decide +kernel
theorem dL_act_194 : decode cL_act 194 = .ok (.goto 108, 3) := by decide +kernel
theorem dL_act_197 : decode cL_act 197 = .ok (.iload_n 1, 1) := by decide +kernel
theorem dL_act_198 : decode cL_act 198 = .ok (.bipush 13, 2) := by decide +kernel
theorem dL_act_200 : decode cL_act 200 = .ok (.if_icmp .ne 20, 3) := by decide +kernel
theorem dL_act_203 : decode cL_act 203 = .ok (.aload_n 0, 1) := by decide +kernel
theorem dL_act_204 : decode cL_act 204 = .ok (.iload_n 2, 1) := by decide +kernel
theorem dL_act_205 : decode cL_act 205 = .ok (.invokevirtual 68, 3) := by decide +kernel
theorem dL_act_208 : decode cL_act 208 = .ok (.ifCond .eq 7, 3) := by decide +kernel
theorem dL_act_211 : decode cL_act 211 = .ok (.iconst 1, 1) := by decide +kernel
theorem dL_act_212 : decode cL_act 212 = .ok (.goto 4, 3) := by decide +kernel
theorem dL_act_215 : decode cL_act 215 = .ok (.iconst 0, 1) := by decide +kernel
theorem dL_act_216 : decode cL_act 216 = .ok (.i2l, 1) := by decide +kernel
theorem dL_act_217 : decode cL_act 217 = .ok (.goto 85, 3) := by decide +kernel
theorem dL_act_220 : decode cL_act 220 = .ok (.iload_n 1, 1) := by decide +kernel
theorem dL_act_221 : decode cL_act 221 = .ok (.bipush 14, 2) := by decide +kernel
theorem dL_act_223 : decode cL_act 223 = .ok (.if_icmp .ne 12, 3) := by decide +kernel
theorem dL_act_226 : decode cL_act 226 = .ok (.aload_n 0, 1) := by decide +kernel
theorem dL_act_227 : decode cL_act 227 = .ok (.iload_n 2, 1) := by decide +kernel
theorem dL_act_228 : decode cL_act 228 = .ok (.invokevirtual 71, 3) := by decide +kernel
theorem dL_act_231 : decode cL_act 231 = .ok (.i2l, 1) := by decide +kernel
theorem dL_act_232 : decode cL_act 232 = .ok (.goto 70, 3) := by decide +kernel
theorem dL_act_235 : decode cL_act 235 = .ok (.iload_n 1, 1) := by decide +kernel
theorem dL_act_236 : decode cL_act 236 = .ok (.bipush 15, 2) := by decide +kernel
theorem dL_act_238 : decode cL_act 238 = .ok (.if_icmp .ne 12, 3) := by decide +kernel
theorem dL_act_241 : decode cL_act 241 = .ok (.aload_n 0, 1) := by decide +kernel
theorem dL_act_242 : decode cL_act 242 = .ok (.iload_n 2, 1) := by decide +kernel
theorem dL_act_243 : decode cL_act 243 = .ok (.invokevirtual 74, 3) := by decide +kernel
theorem dL_act_246 : decode cL_act 246 = .ok (.i2l, 1) := by decide +kernel
theorem dL_act_247 : decode cL_act 247 = .ok (.goto 55, 3) := by decide +kernel
theorem dL_act_250 : decode cL_act 250 = .ok (.iload_n 1, 1) := by decide +kernel
theorem dL_act_251 : decode cL_act 251 = .ok (.bipush 16, 2) := by decide +kernel
theorem dL_act_253 : decode cL_act 253 = .ok (.if_icmp .ne 22, 3) := by decide +kernel
theorem dL_act_256 : decode cL_act 256 = .ok (.aload_n 0, 1) := by decide +kernel
theorem dL_act_257 : decode cL_act 257 = .ok (.iload_n 2, 1) := by decide +kernel
theorem dL_act_258 : decode cL_act 258 = .ok (.iload_n 3, 1) := by decide +kernel
theorem dL_act_259 : decode cL_act 259 = .ok (.iconst 1, 1) := by decide +kernel
theorem dL_act_260 : decode cL_act 260 = .ok (.if_icmp .ne 7, 3) := by decide +kernel
theorem dL_act_263 : decode cL_act 263 = .ok (.iconst 1, 1) := by decide +kernel
theorem dL_act_264 : decode cL_act 264 = .ok (.goto 4, 3) := by decide +kernel
theorem dL_act_267 : decode cL_act 267 = .ok (.iconst 0, 1) := by decide +kernel
theorem dL_act_268 : decode cL_act 268 = .ok (.invokevirtual 77, 3) := by decide +kernel
theorem dL_act_271 : decode cL_act 271 = .ok (.i2l, 1) := by decide +kernel
theorem dL_act_272 : decode cL_act 272 = .ok (.goto 30, 3) := by decide +kernel
theorem dL_act_275 : decode cL_act 275 = .ok (.iload_n 1, 1) := by decide +kernel
theorem dL_act_276 : decode cL_act 276 = .ok (.bipush 17, 2) := by decide +kernel
theorem dL_act_278 : decode cL_act 278 = .ok (.if_icmp .ne 15, 3) := by decide +kernel
theorem dL_act_281 : decode cL_act 281 = .ok (.aload_n 0, 1) := by decide +kernel
theorem dL_act_282 : decode cL_act 282 = .ok (.iload_n 2, 1) := by decide +kernel
theorem dL_act_283 : decode cL_act 283 = .ok (.iload_n 3, 1) := by decide +kernel
theorem dL_act_284 : decode cL_act 284 = .ok (.iload 4, 2) := by decide +kernel
theorem dL_act_286 : decode cL_act 286 = .ok (.iconst 1, 1) := by decide +kernel
theorem dL_act_287 : decode cL_act 287 = .ok (.invokevirtual 81, 3) := by decide +kernel
theorem dL_act_290 : decode cL_act 290 = .ok (.goto 12, 3) := by decide +kernel
theorem dL_act_293 : decode cL_act 293 = .ok (.aload_n 0, 1) := by decide +kernel
theorem dL_act_294 : decode cL_act 294 = .ok (.iload_n 2, 1) := by decide +kernel
theorem dL_act_295 : decode cL_act 295 = .ok (.iload_n 3, 1) := by decide +kernel
theorem dL_act_296 : decode cL_act 296 = .ok (.iload 4, 2) := by decide +kernel
theorem dL_act_298 : decode cL_act 298 = .ok (.iconst 0, 1) := by decide +kernel
theorem dL_act_299 : decode cL_act 299 = .ok (.invokevirtual 81, 3) := by decide +kernel
theorem dL_act_302 : decode cL_act 302 = .ok (.lreturn, 1) := by decide +kernel
theorem dL_act_303 : decode cL_act 303 = .ok (.astore 5, 2) := by decide +kernel
theorem dL_act_305 : decode cL_act 305 = .ok (.ldc2_w 85, 3) := by decide +kernel
theorem dL_act_308 : decode cL_act 308 = .ok (.lreturn, 1) := by decide +kernel
theorem dL_act_309 : decode cL_act 309 = .ok (.astore 5, 2) := by decide +kernel
theorem dL_act_311 : decode cL_act 311 = .ok (.ldc2_w 87, 3) := by decide +kernel
theorem dL_act_314 : decode cL_act 314 = .ok (.lreturn, 1) := by decide +kernel
theorem dL_act_315 : decode cL_act 315 = .ok (.astore 5, 2) := by decide +kernel
theorem dL_act_317 : decode cL_act 317 = .ok (.ldc2_w 89, 3) := by decide +kernel
theorem dL_act_320 : decode cL_act 320 = .ok (.lreturn, 1) := by decide +kernel
theorem dL_refuses_0 : decode cL_refuses 0 = .ok (.aload_n 0, 1) := by decide +kernel
theorem dL_refuses_1 : decode cL_refuses 1 = .ok (.invokevirtual 91, 3) := by decide +kernel
theorem dL_refuses_4 : decode cL_refuses 4 = .ok (.istore_n 1, 1) := by decide +kernel
theorem dL_refuses_5 : decode cL_refuses 5 = .ok (.aload_n 0, 1) := by decide +kernel
theorem dL_refuses_6 : decode cL_refuses 6 = .ok (.invokevirtual 94, 3) := by decide +kernel
theorem dL_refuses_9 : decode cL_refuses 9 = .ok (.istore_n 2, 1) := by decide +kernel
theorem dL_refuses_10 : decode cL_refuses 10 = .ok (.aload_n 0, 1) := by decide +kernel
theorem dL_refuses_11 : decode cL_refuses 11 = .ok (.invokevirtual 97, 3) := by decide +kernel
theorem dL_refuses_14 : decode cL_refuses 14 = .ok (.istore_n 3, 1) := by decide +kernel
theorem dL_refuses_15 : decode cL_refuses 15 = .ok (.ldc2_w 85, 3) := by decide +kernel
theorem dL_refuses_18 : decode cL_refuses 18 = .ok (.lstore 4, 2) := by decide +kernel
theorem dL_refuses_20 : decode cL_refuses 20 = .ok (.ldc2_w 87, 3) := by decide +kernel
theorem dL_refuses_23 : decode cL_refuses 23 = .ok (.lstore 6, 2) := by decide +kernel
theorem dL_refuses_25 : decode cL_refuses 25 = .ok (.ldc 100, 2) := by decide +kernel
theorem dL_refuses_27 : decode cL_refuses 27 = .ok (.istore 8, 2) := by decide +kernel
theorem dL_refuses_29 : decode cL_refuses 29 = .ok (.iconst 0, 1) := by decide +kernel
theorem dL_refuses_30 : decode cL_refuses 30 = .ok (.istore 9, 2) := by decide +kernel
theorem dL_refuses_32 : decode cL_refuses 32 = .ok (.iload 9, 2) := by decide +kernel
theorem dL_refuses_34 : decode cL_refuses 34 = .ok (.iconst 4, 1) := by decide +kernel
theorem dL_refuses_35 : decode cL_refuses 35 = .ok (.if_icmp .ge 486, 3) := by decide +kernel
theorem dL_refuses_38 : decode cL_refuses 38 = .ok (.iload 9, 2) := by decide +kernel
theorem dL_refuses_40 : decode cL_refuses 40 = .ok (.ifCond .ne 7, 3) := by decide +kernel
theorem dL_refuses_43 : decode cL_refuses 43 = .ok (.iconst (-1), 1) := by decide +kernel
theorem dL_refuses_44 : decode cL_refuses 44 = .ok (.goto 19, 3) := by decide +kernel
theorem dL_refuses_47 : decode cL_refuses 47 = .ok (.iload 9, 2) := by decide +kernel
theorem dL_refuses_49 : decode cL_refuses 49 = .ok (.iconst 2, 1) := by decide +kernel
theorem dL_refuses_50 : decode cL_refuses 50 = .ok (.if_icmp .ne 8, 3) := by decide +kernel
theorem dL_refuses_53 : decode cL_refuses 53 = .ok (.iload 8, 2) := by decide +kernel
theorem dL_refuses_55 : decode cL_refuses 55 = .ok (.goto 8, 3) := by decide +kernel
theorem dL_refuses_58 : decode cL_refuses 58 = .ok (.iload 8, 2) := by decide +kernel
theorem dL_refuses_60 : decode cL_refuses 60 = .ok (.ineg, 1) := by decide +kernel
theorem dL_refuses_61 : decode cL_refuses 61 = .ok (.iconst 1, 1) := by decide +kernel
theorem dL_refuses_62 : decode cL_refuses 62 = .ok (.isub, 1) := by decide +kernel
theorem dL_refuses_63 : decode cL_refuses 63 = .ok (.istore 10, 2) := by decide +kernel
theorem dL_refuses_65 : decode cL_refuses 65 = .ok (.iload 9, 2) := by decide +kernel
theorem dL_refuses_67 : decode cL_refuses 67 = .ok (.iconst 1, 1) := by decide +kernel
theorem dL_refuses_68 : decode cL_refuses 68 = .ok (.if_icmp .ne 7, 3) := by decide +kernel
theorem dL_refuses_71 : decode cL_refuses 71 = .ok (.iload_n 1, 1) := by decide +kernel
theorem dL_refuses_72 : decode cL_refuses 72 = .ok (.goto 5, 3) := by decide +kernel
theorem dL_refuses_75 : decode cL_refuses 75 = .ok (.iload 10, 2) := by decide +kernel
theorem dL_refuses_77 : decode cL_refuses 77 = .ok (.istore 11, 2) := by decide +kernel
theorem dL_refuses_79 : decode cL_refuses 79 = .ok (.iload 9, 2) := by decide +kernel
theorem dL_refuses_81 : decode cL_refuses 81 = .ok (.iconst 1, 1) := by decide +kernel
theorem dL_refuses_82 : decode cL_refuses 82 = .ok (.if_icmp .ne 7, 3) := by decide +kernel
theorem dL_refuses_85 : decode cL_refuses 85 = .ok (.iload_n 2, 1) := by decide +kernel
theorem dL_refuses_86 : decode cL_refuses 86 = .ok (.goto 5, 3) := by decide +kernel
theorem dL_refuses_89 : decode cL_refuses 89 = .ok (.iload 10, 2) := by decide +kernel
theorem dL_refuses_91 : decode cL_refuses 91 = .ok (.istore 12, 2) := by decide +kernel
theorem dL_refuses_93 : decode cL_refuses 93 = .ok (.iload 9, 2) := by decide +kernel
theorem dL_refuses_95 : decode cL_refuses 95 = .ok (.ifCond .ne 9, 3) := by decide +kernel
theorem dL_refuses_98 : decode cL_refuses 98 = .ok (.sipush (-10000), 3) := by decide +kernel
theorem dL_refuses_101 : decode cL_refuses 101 = .ok (.goto 17, 3) := by decide +kernel
theorem dL_refuses_104 : decode cL_refuses 104 = .ok (.iload 9, 2) := by decide +kernel
theorem dL_refuses_106 : decode cL_refuses 106 = .ok (.iconst 1, 1) := by decide +kernel
theorem dL_refuses_107 : decode cL_refuses 107 = .ok (.if_icmp .ne 9, 3) := by decide +kernel
theorem dL_refuses_110 : decode cL_refuses 110 = .ok (.sipush 10000, 3) := by decide +kernel
theorem dL_refuses_113 : decode cL_refuses 113 = .ok (.goto 5, 3) := by decide +kernel
theorem dL_refuses_116 : decode cL_refuses 116 = .ok (.iload 10, 2) := by decide +kernel
theorem dL_refuses_118 : decode cL_refuses 118 = .ok (.istore 13, 2) := by decide +kernel
theorem dL_refuses_120 : decode cL_refuses 120 = .ok (.aload_n 0, 1) := by decide +kernel
theorem dL_refuses_121 : decode cL_refuses 121 = .ok (.iload 9, 2) := by decide +kernel
theorem dL_refuses_123 : decode cL_refuses 123 = .ok (.ifCond .ne 7, 3) := by decide +kernel
theorem dL_refuses_126 : decode cL_refuses 126 = .ok (.iconst 1, 1) := by decide +kernel
theorem dL_refuses_127 : decode cL_refuses 127 = .ok (.goto 16, 3) := by decide +kernel
theorem dL_refuses_130 : decode cL_refuses 130 = .ok (.iload 9, 2) := by decide +kernel
theorem dL_refuses_132 : decode cL_refuses 132 = .ok (.iconst 1, 1) := by decide +kernel
theorem dL_refuses_133 : decode cL_refuses 133 = .ok (.if_icmp .ne 8, 3) := by decide +kernel
theorem dL_refuses_136 : decode cL_refuses 136 = .ok (.bipush 7, 2) := by decide +kernel
theorem dL_refuses_138 : decode cL_refuses 138 = .ok (.goto 5, 3) := by decide +kernel
theorem dL_refuses_141 : decode cL_refuses 141 = .ok (.iload 10, 2) := by decide +kernel
theorem dL_refuses_143 : decode cL_refuses 143 = .ok (.invokestatic 101, 3) := by decide +kernel
theorem dL_refuses_146 : decode cL_refuses 146 = .ok (.bipush (-12), 2) := by decide +kernel
theorem dL_refuses_148 : decode cL_refuses 148 = .ok (.if_icmp .ne 177, 3) := by decide +kernel
theorem dL_refuses_151 : decode cL_refuses 151 = .ok (.aload_n 0, 1) := by decide +kernel
theorem dL_refuses_152 : decode cL_refuses 152 = .ok (.iload 12, 2) := by decide +kernel
theorem dL_refuses_154 : decode cL_refuses 154 = .ok (.invokestatic 106, 3) := by decide +kernel
theorem dL_refuses_157 : decode cL_refuses 157 = .ok (.bipush (-11), 2) := by decide +kernel
theorem dL_refuses_159 : decode cL_refuses 159 = .ok (.if_icmp .ne 166, 3) := by decide +kernel
theorem dL_refuses_162 : decode cL_refuses 162 = .ok (.aload_n 0, 1) := by decide +kernel
theorem dL_refuses_163 : decode cL_refuses 163 = .ok (.iload 12, 2) := by decide +kernel
theorem dL_refuses_165 : decode cL_refuses 165 = .ok (.invokestatic 109, 3) := by decide +kernel
theorem dL_refuses_168 : decode cL_refuses 168 = .ok (.bipush (-11), 2) := by decide +kernel
theorem dL_refuses_170 : decode cL_refuses 170 = .ok (.if_icmp .ne 155, 3) := by decide +kernel
theorem dL_refuses_173 : decode cL_refuses 173 = .ok (.aload_n 0, 1) := by decide +kernel
theorem dL_refuses_174 : decode cL_refuses 174 = .ok (.iconst 0, 1) := by decide +kernel
theorem dL_refuses_175 : decode cL_refuses 175 = .ok (.iload 13, 2) := by decide +kernel
theorem dL_refuses_177 : decode cL_refuses 177 = .ok (.iconst 0, 1) := by decide +kernel
theorem dL_refuses_178 : decode cL_refuses 178 = .ok (.iconst 0, 1) := by decide +kernel
theorem dL_refuses_179 : decode cL_refuses 179 = .ok (.invokestatic 112, 3) := by decide +kernel
theorem dL_refuses_182 : decode cL_refuses 182 = .ok (.lload 6, 2) := by decide +kernel
theorem dL_refuses_184 : decode cL_refuses 184 = .ok (.lcmp, 1) := by decide +kernel
theorem dL_refuses_185 : decode cL_refuses 185 = .ok (.ifCond .ne 140, 3) := by decide +kernel
theorem dL_refuses_188 : decode cL_refuses 188 = .ok (.aload_n 0, 1) := by decide +kernel
theorem dL_refuses_189 : decode cL_refuses 189 = .ok (.iconst 2, 1) := by decide +kernel
theorem dL_refuses_190 : decode cL_refuses 190 = .ok (.iload 11, 2) := by decide +kernel
theorem dL_refuses_192 : decode cL_refuses 192 = .ok (.iconst (-1), 1) := by decide +kernel
theorem dL_refuses_193 : decode cL_refuses 193 = .ok (.iconst 0, 1) := by decide +kernel
theorem dL_refuses_194 : decode cL_refuses 194 = .ok (.invokestatic 112, 3) := by decide +kernel
theorem dL_refuses_197 : decode cL_refuses 197 = .ok (.lload 4, 2) := by decide +kernel
theorem dL_refuses_199 : decode cL_refuses 199 = .ok (.lcmp, 1) := by decide +kernel
theorem dL_refuses_200 : decode cL_refuses 200 = .ok (.ifCond .ne 125, 3) := by decide +kernel
theorem dL_refuses_203 : decode cL_refuses 203 = .ok (.iload_n 1, 1) := by decide +kernel
theorem dL_refuses_204 : decode cL_refuses 204 = .ok (.ifCond .eq 29, 3) := by decide +kernel
theorem dL_refuses_207 : decode cL_refuses 207 = .ok (.aload_n 0, 1) := by decide +kernel
theorem dL_refuses_208 : decode cL_refuses 208 = .ok (.iconst 2, 1) := by decide +kernel
theorem dL_refuses_209 : decode cL_refuses 209 = .ok (.iconst 0, 1) := by decide +kernel
theorem dL_refuses_210 : decode cL_refuses 210 = .ok (.iload 9, 2) := by decide +kernel
theorem dL_refuses_212 : decode cL_refuses 212 = .ok (.iconst 1, 1) := by decide +kernel
theorem dL_refuses_213 : decode cL_refuses 213 = .ok (.if_icmp .ne 8, 3) := by decide +kernel
theorem dL_refuses_216 : decode cL_refuses 216 = .ok (.bipush 10, 2) := by decide +kernel
theorem dL_refuses_218 : decode cL_refuses 218 = .ok (.goto 5, 3) := by decide +kernel
theorem dL_refuses_221 : decode cL_refuses 221 = .ok (.iload 10, 2) := by decide +kernel
theorem dL_refuses_223 : decode cL_refuses 223 = .ok (.iconst 0, 1) := by decide +kernel
theorem dL_refuses_224 : decode cL_refuses 224 = .ok (.invokestatic 112, 3) := by decide +kernel
theorem dL_refuses_227 : decode cL_refuses 227 = .ok (.lload 6, 2) := by decide +kernel
theorem dL_refuses_229 : decode cL_refuses 229 = .ok (.lcmp, 1) := by decide +kernel
theorem dL_refuses_230 : decode cL_refuses 230 = .ok (.ifCond .ne 95, 3) := by decide +kernel
theorem dL_refuses_233 : decode cL_refuses 233 = .ok (.aload_n 0, 1) := by decide +kernel
theorem dL_refuses_234 : decode cL_refuses 234 = .ok (.bipush 12, 2) := by decide +kernel
theorem dL_refuses_236 : decode cL_refuses 236 = .ok (.iload 11, 2) := by decide +kernel
theorem dL_refuses_238 : decode cL_refuses 238 = .ok (.iconst 0, 1) := by decide +kernel
theorem dL_refuses_239 : decode cL_refuses 239 = .ok (.iconst 0, 1) := by decide +kernel
theorem dL_refuses_240 : decode cL_refuses 240 = .ok (.invokestatic 112, 3) := by decide +kernel
theorem dL_refuses_243 : decode cL_refuses 243 = .ok (.lload 4, 2) := by decide +kernel
theorem dL_refuses_245 : decode cL_refuses 245 = .ok (.lcmp, 1) := by decide +kernel
theorem dL_refuses_246 : decode cL_refuses 246 = .ok (.ifCond .ne 79, 3) := by decide +kernel
theorem dL_refuses_249 : decode cL_refuses 249 = .ok (.aload_n 0, 1) := by decide +kernel
theorem dL_refuses_250 : decode cL_refuses 250 = .ok (.bipush 12, 2) := by decide +kernel
theorem dL_refuses_252 : decode cL_refuses 252 = .ok (.iconst 0, 1) := by decide +kernel
theorem dL_refuses_253 : decode cL_refuses 253 = .ok (.iload 9, 2) := by decide +kernel
theorem dL_refuses_255 : decode cL_refuses 255 = .ok (.ifCond .ne 7, 3) := by decide +kernel
theorem dL_refuses_258 : decode cL_refuses 258 = .ok (.iconst 0, 1) := by decide +kernel
theorem dL_refuses_259 : decode cL_refuses 259 = .ok (.goto 16, 3) := by decide +kernel
theorem dL_refuses_262 : decode cL_refuses 262 = .ok (.iload 9, 2) := by decide +kernel
theorem dL_refuses_264 : decode cL_refuses 264 = .ok (.iconst 1, 1) := by decide +kernel
theorem dL_refuses_265 : decode cL_refuses 265 = .ok (.if_icmp .ne 8, 3) := by decide +kernel
theorem dL_refuses_268 : decode cL_refuses 268 = .ok (.bipush 9, 2) := by decide +kernel
theorem dL_refuses_270 : decode cL_refuses 270 = .ok (.goto 5, 3) := by decide +kernel
theorem dL_refuses_273 : decode cL_refuses 273 = .ok (.iload 10, 2) := by decide +kernel
theorem dL_refuses_275 : decode cL_refuses 275 = .ok (.iconst 0, 1) := by decide +kernel
theorem dL_refuses_276 : decode cL_refuses 276 = .ok (.invokestatic 112, 3) := by decide +kernel
theorem dL_refuses_279 : decode cL_refuses 279 = .ok (.lload 4, 2) := by decide +kernel
theorem dL_refuses_281 : decode cL_refuses 281 = .ok (.lcmp, 1) := by decide +kernel
theorem dL_refuses_282 : decode cL_refuses 282 = .ok (.ifCond .ne 43, 3) := by decide +kernel
theorem dL_refuses_285 : decode cL_refuses 285 = .ok (.aload_n 0, 1) := by decide +kernel
theorem dL_refuses_286 : decode cL_refuses 286 = .ok (.bipush 14, 2) := by decide +kernel
theorem dL_refuses_288 : decode cL_refuses 288 = .ok (.iload 9, 2) := by decide +kernel
theorem dL_refuses_290 : decode cL_refuses 290 = .ok (.ifCond .ne 7, 3) := by decide +kernel
theorem dL_refuses_293 : decode cL_refuses 293 = .ok (.iconst 0, 1) := by decide +kernel
theorem dL_refuses_294 : decode cL_refuses 294 = .ok (.goto 16, 3) := by decide +kernel
theorem dL_refuses_297 : decode cL_refuses 297 = .ok (.iload 9, 2) := by decide +kernel
theorem dL_refuses_299 : decode cL_refuses 299 = .ok (.iconst 1, 1) := by decide +kernel
theorem dL_refuses_300 : decode cL_refuses 300 = .ok (.if_icmp .ne 8, 3) := by decide +kernel
theorem dL_refuses_303 : decode cL_refuses 303 = .ok (.bipush 11, 2) := by decide +kernel
theorem dL_refuses_305 : decode cL_refuses 305 = .ok (.goto 5, 3) := by decide +kernel
theorem dL_refuses_308 : decode cL_refuses 308 = .ok (.iload 10, 2) := by decide +kernel
theorem dL_refuses_310 : decode cL_refuses 310 = .ok (.iconst 0, 1) := by decide +kernel
theorem dL_refuses_311 : decode cL_refuses 311 = .ok (.iconst 0, 1) := by decide +kernel
theorem dL_refuses_312 : decode cL_refuses 312 = .ok (.invokestatic 112, 3) := by decide +kernel
theorem dL_refuses_315 : decode cL_refuses 315 = .ok (.lload 6, 2) := by decide +kernel
theorem dL_refuses_317 : decode cL_refuses 317 = .ok (.lcmp, 1) := by decide +kernel
theorem dL_refuses_318 : decode cL_refuses 318 = .ok (.ifCond .ne 7, 3) := by decide +kernel
theorem dL_refuses_321 : decode cL_refuses 321 = .ok (.iconst 1, 1) := by decide +kernel
theorem dL_refuses_322 : decode cL_refuses 322 = .ok (.goto 4, 3) := by decide +kernel
theorem dL_refuses_325 : decode cL_refuses 325 = .ok (.iconst 0, 1) := by decide +kernel
theorem dL_refuses_326 : decode cL_refuses 326 = .ok (.istore 14, 2) := by decide +kernel
theorem dL_refuses_328 : decode cL_refuses 328 = .ok (.iconst 3, 1) := by decide +kernel
theorem dL_refuses_329 : decode cL_refuses 329 = .ok (.istore 15, 2) := by decide +kernel
theorem dL_refuses_331 : decode cL_refuses 331 = .ok (.iload 15, 2) := by decide +kernel
theorem dL_refuses_333 : decode cL_refuses 333 = .ok (.bipush 17, 2) := by decide +kernel
theorem dL_refuses_335 : decode cL_refuses 335 = .ok (.if_icmp .ge 81, 3) := by decide +kernel
theorem dL_refuses_338 : decode cL_refuses 338 = .ok (.iload 15, 2) := by decide +kernel
theorem dL_refuses_340 : decode cL_refuses 340 = .ok (.iconst 5, 1) := by decide +kernel
theorem dL_refuses_341 : decode cL_refuses 341 = .ok (.if_icmp .le 14, 3) := by decide +kernel
theorem dL_refuses_344 : decode cL_refuses 344 = .ok (.iload 15, 2) := by decide +kernel
theorem dL_refuses_346 : decode cL_refuses 346 = .ok (.bipush 10, 2) := by decide +kernel
theorem dL_refuses_348 : decode cL_refuses 348 = .ok (.if_icmp .ge 7, 3) := by decide +kernel
theorem dL_refuses_351 : decode cL_refuses 351 = .ok (.iconst 1, 1) := by decide +kernel
theorem dL_refuses_352 : decode cL_refuses 352 = .ok (.goto 4, 3) := by decide +kernel
theorem dL_refuses_355 : decode cL_refuses 355 = .ok (.iconst 0, 1) := by decide +kernel
theorem dL_refuses_356 : decode cL_refuses 356 = .ok (.istore 16, 2) := by decide +kernel
theorem dL_refuses_358 : decode cL_refuses 358 = .ok (.iload 14, 2) := by decide +kernel
theorem dL_refuses_360 : decode cL_refuses 360 = .ok (.ifCond .eq 47, 3) := by decide +kernel
theorem dL_refuses_363 : decode cL_refuses 363 = .ok (.iload 15, 2) := by decide +kernel
theorem dL_refuses_365 : decode cL_refuses 365 = .ok (.bipush 12, 2) := by decide +kernel
theorem dL_refuses_367 : decode cL_refuses 367 = .ok (.if_icmp .eq 36, 3) := by decide +kernel
theorem dL_refuses_370 : decode cL_refuses 370 = .ok (.iload 15, 2) := by decide +kernel
theorem dL_refuses_372 : decode cL_refuses 372 = .ok (.bipush 14, 2) := by decide +kernel
theorem dL_refuses_374 : decode cL_refuses 374 = .ok (.if_icmp .eq 29, 3) := by decide +kernel
theorem dL_refuses_377 : decode cL_refuses 377 = .ok (.aload_n 0, 1) := by decide +kernel
theorem dL_refuses_378 : decode cL_refuses 378 = .ok (.iload 15, 2) := by decide +kernel
theorem dL_refuses_380 : decode cL_refuses 380 = .ok (.iload 16, 2) := by decide +kernel
theorem dL_refuses_382 : decode cL_refuses 382 = .ok (.ifCond .eq 8, 3) := by decide +kernel
theorem dL_refuses_385 : decode cL_refuses 385 = .ok (.iload 12, 2) := by decide +kernel
theorem dL_refuses_387 : decode cL_refuses 387 = .ok (.goto 5, 3) := by decide +kernel
theorem dL_refuses_390 : decode cL_refuses 390 = .ok (.iload 11, 2) := by decide +kernel
theorem dL_refuses_392 : decode cL_refuses 392 = .ok (.iconst 0, 1) := by decide +kernel
theorem dL_refuses_393 : decode cL_refuses 393 = .ok (.iconst 0, 1) := by decide +kernel
theorem dL_refuses_394 : decode cL_refuses 394 = .ok (.invokestatic 112, 3) := by decide +kernel
theorem dL_refuses_397 : decode cL_refuses 397 = .ok (.lload 4, 2) := by decide +kernel
theorem dL_refuses_399 : decode cL_refuses 399 = .ok (.lcmp, 1) := by decide +kernel
theorem dL_refuses_400 : decode cL_refuses 400 = .ok (.ifCond .ne 7, 3) := by decide +kernel
theorem dL_refuses_403 : decode cL_refuses 403 = .ok (.iconst 1, 1) := by decide +kernel
theorem dL_refuses_404 : decode cL_refuses 404 = .ok (.goto 4, 3) := by decide +kernel
theorem dL_refuses_407 : decode cL_refuses 407 = .ok (.iconst 0, 1) := by decide +kernel
theorem dL_refuses_408 : decode cL_refuses 408 = .ok (.istore 14, 2) := by decide +kernel
theorem dL_refuses_410 : decode cL_refuses 410 = .ok (.iinc 15 1, 3) := by decide +kernel
theorem dL_refuses_413 : decode cL_refuses 413 = .ok (.goto (-82), 3) := by decide +kernel
theorem dL_refuses_416 : decode cL_refuses 416 = .ok (.bipush 17, 2) := by decide +kernel
theorem dL_refuses_418 : decode cL_refuses 418 = .ok (.istore 15, 2) := by decide +kernel
theorem dL_refuses_420 : decode cL_refuses 420 = .ok (.iload 15, 2) := by decide +kernel
theorem dL_refuses_422 : decode cL_refuses 422 = .ok (.bipush 19, 2) := by decide +kernel
theorem dL_refuses_424 : decode cL_refuses 424 = .ok (.if_icmp .ge 84, 3) := by decide +kernel
theorem dL_refuses_427 : decode cL_refuses 427 = .ok (.iload 14, 2) := by decide +kernel
theorem dL_refuses_429 : decode cL_refuses 429 = .ok (.ifCond .eq 70, 3) := by decide +kernel
theorem dL_refuses_432 : decode cL_refuses 432 = .ok (.aload_n 0, 1) := by decide +kernel
theorem dL_refuses_433 : decode cL_refuses 433 = .ok (.iload 15, 2) := by decide +kernel
theorem dL_refuses_435 : decode cL_refuses 435 = .ok (.iload 12, 2) := by decide +kernel
theorem dL_refuses_437 : decode cL_refuses 437 = .ok (.iconst 0, 1) := by decide +kernel
theorem dL_refuses_438 : decode cL_refuses 438 = .ok (.iconst (-1), 1) := by decide +kernel
theorem dL_refuses_439 : decode cL_refuses 439 = .ok (.invokestatic 112, 3) := by decide +kernel
theorem dL_refuses_442 : decode cL_refuses 442 = .ok (.lload 4, 2) := by decide +kernel
theorem dL_refuses_444 : decode cL_refuses 444 = .ok (.lcmp, 1) := by decide +kernel
theorem dL_refuses_445 : decode cL_refuses 445 = .ok (.ifCond .ne 54, 3) := by decide +kernel
theorem dL_refuses_448 : decode cL_refuses 448 = .ok (.aload_n 0, 1) := by decide +kernel
theorem dL_refuses_449 : decode cL_refuses 449 = .ok (.iload 15, 2) := by decide +kernel
theorem dL_refuses_451 : decode cL_refuses 451 = .ok (.iconst 0, 1) := by decide +kernel
theorem dL_refuses_452 : decode cL_refuses 452 = .ok (.iload 13, 2) := by decide +kernel
theorem dL_refuses_454 : decode cL_refuses 454 = .ok (.iconst 0, 1) := by decide +kernel
theorem dL_refuses_455 : decode cL_refuses 455 = .ok (.invokestatic 112, 3) := by decide +kernel
theorem dL_refuses_458 : decode cL_refuses 458 = .ok (.lload 6, 2) := by decide +kernel
theorem dL_refuses_460 : decode cL_refuses 460 = .ok (.lcmp, 1) := by decide +kernel
theorem dL_refuses_461 : decode cL_refuses 461 = .ok (.ifCond .ne 38, 3) := by decide +kernel
theorem dL_refuses_464 : decode cL_refuses 464 = .ok (.aload_n 0, 1) := by decide +kernel
theorem dL_refuses_465 : decode cL_refuses 465 = .ok (.iload 15, 2) := by decide +kernel
theorem dL_refuses_467 : decode cL_refuses 467 = .ok (.iconst 0, 1) := by decide +kernel
theorem dL_refuses_468 : decode cL_refuses 468 = .ok (.iconst 0, 1) := by decide +kernel
theorem dL_refuses_469 : decode cL_refuses 469 = .ok (.iload 13, 2) := by decide +kernel
theorem dL_refuses_471 : decode cL_refuses 471 = .ok (.invokestatic 112, 3) := by decide +kernel
theorem dL_refuses_474 : decode cL_refuses 474 = .ok (.lload 6, 2) := by decide +kernel
theorem dL_refuses_476 : decode cL_refuses 476 = .ok (.lcmp, 1) := by decide +kernel
theorem dL_refuses_477 : decode cL_refuses 477 = .ok (.ifCond .ne 22, 3) := by decide +kernel
theorem dL_refuses_480 : decode cL_refuses 480 = .ok (.aload_n 0, 1) := by decide +kernel
theorem dL_refuses_481 : decode cL_refuses 481 = .ok (.iload 15, 2) := by decide +kernel
theorem dL_refuses_483 : decode cL_refuses 483 = .ok (.iconst 0, 1) := by decide +kernel
theorem dL_refuses_484 : decode cL_refuses 484 = .ok (.iconst 5, 1) := by decide +kernel
theorem dL_refuses_485 : decode cL_refuses 485 = .ok (.iconst 4, 1) := by decide +kernel
theorem dL_refuses_486 : decode cL_refuses 486 = .ok (.invokestatic 112, 3) := by decide +kernel
theorem dL_refuses_489 : decode cL_refuses 489 = .ok (.lload 6, 2) := by decide +kernel
theorem dL_refuses_491 : decode cL_refuses 491 = .ok (.lcmp, 1) := by decide +kernel
theorem dL_refuses_492 : decode cL_refuses 492 = .ok (.ifCond .ne 7, 3) := by decide +kernel
theorem dL_refuses_495 : decode cL_refuses 495 = .ok (.iconst 1, 1) := by decide +kernel
theorem dL_refuses_496 : decode cL_refuses 496 = .ok (.goto 4, 3) := by decide +kernel
theorem dL_refuses_499 : decode cL_refuses 499 = .ok (.iconst 0, 1) := by decide +kernel
theorem dL_refuses_500 : decode cL_refuses 500 = .ok (.istore 14, 2) := by decide +kernel
theorem dL_refuses_502 : decode cL_refuses 502 = .ok (.iinc 15 1, 3) := by decide +kernel
theorem dL_refuses_505 : decode cL_refuses 505 = .ok (.goto (-85), 3) := by decide +kernel
theorem dL_refuses_508 : decode cL_refuses 508 = .ok (.iload 14, 2) := by decide +kernel
theorem dL_refuses_510 : decode cL_refuses 510 = .ok (.ifCond .ne 5, 3) := by decide +kernel
theorem dL_refuses_513 : decode cL_refuses 513 = .ok (.iconst 0, 1) := by decide +kernel
theorem dL_refuses_514 : decode cL_refuses 514 = .ok (.ireturn, 1) := by decide +kernel
theorem dL_refuses_515 : decode cL_refuses 515 = .ok (.iinc 9 1, 3) := by decide +kernel
theorem dL_refuses_518 : decode cL_refuses 518 = .ok (.goto (-486), 3) := by decide +kernel
theorem dL_refuses_521 : decode cL_refuses 521 = .ok (.aload_n 0, 1) := by decide +kernel
theorem dL_refuses_522 : decode cL_refuses 522 = .ok (.invokevirtual 91, 3) := by decide +kernel
theorem dL_refuses_525 : decode cL_refuses 525 = .ok (.iload_n 1, 1) := by decide +kernel
theorem dL_refuses_526 : decode cL_refuses 526 = .ok (.if_icmp .ne 23, 3) := by decide +kernel
theorem dL_refuses_529 : decode cL_refuses 529 = .ok (.aload_n 0, 1) := by decide +kernel
theorem dL_refuses_530 : decode cL_refuses 530 = .ok (.invokevirtual 94, 3) := by decide +kernel
theorem dL_refuses_533 : decode cL_refuses 533 = .ok (.iload_n 2, 1) := by decide +kernel
theorem dL_refuses_534 : decode cL_refuses 534 = .ok (.if_icmp .ne 15, 3) := by decide +kernel
theorem dL_refuses_537 : decode cL_refuses 537 = .ok (.aload_n 0, 1) := by decide +kernel
theorem dL_refuses_538 : decode cL_refuses 538 = .ok (.invokevirtual 97, 3) := by decide +kernel
theorem dL_refuses_541 : decode cL_refuses 541 = .ok (.iload_n 3, 1) := by decide +kernel
theorem dL_refuses_542 : decode cL_refuses 542 = .ok (.if_icmp .ne 7, 3) := by decide +kernel
theorem dL_refuses_545 : decode cL_refuses 545 = .ok (.iconst 1, 1) := by decide +kernel
theorem dL_refuses_546 : decode cL_refuses 546 = .ok (.goto 4, 3) := by decide +kernel
theorem dL_refuses_549 : decode cL_refuses 549 = .ok (.iconst 0, 1) := by decide +kernel
theorem dL_refuses_550 : decode cL_refuses 550 = .ok (.ireturn, 1) := by decide +kernel
theorem dL_two_0 : decode cL_two 0 = .ok (.aload_n 0, 1) := by decide +kernel
theorem dL_two_1 : decode cL_two 1 = .ok (.iload_n 1, 1) := by decide +kernel
theorem dL_two_2 : decode cL_two 2 = .ok (.invokevirtual 25, 3) := by decide +kernel
theorem dL_two_5 : decode cL_two 5 = .ok (.ifCond .ne 15, 3) := by decide +kernel
theorem dL_two_8 : decode cL_two 8 = .ok (.aload_n 0, 1) := by decide +kernel
theorem dL_two_9 : decode cL_two 9 = .ok (.iload_n 2, 1) := by decide +kernel
theorem dL_two_10 : decode cL_two 10 = .ok (.invokevirtual 25, 3) := by decide +kernel
theorem dL_two_13 : decode cL_two 13 = .ok (.ifCond .eq 7, 3) := by decide +kernel
theorem dL_two_16 : decode cL_two 16 = .ok (.iconst 1, 1) := by decide +kernel
theorem dL_two_17 : decode cL_two 17 = .ok (.goto 4, 3) := by decide +kernel
theorem dL_two_20 : decode cL_two 20 = .ok (.iconst 0, 1) := by decide +kernel
theorem dL_two_21 : decode cL_two 21 = .ok (.ireturn, 1) := by decide +kernel
theorem dL_limits_0 : decode cL_limits 0 = .ok (.aload_n 0, 1) := by decide +kernel
theorem dL_limits_1 : decode cL_limits 1 = .ok (.iconst 0, 1) := by decide +kernel
theorem dL_limits_2 : decode cL_limits 2 = .ok (.invokevirtual 50, 3) := by decide +kernel
theorem dL_limits_5 : decode cL_limits 5 = .ok (.iload_n 1, 1) := by decide +kernel
theorem dL_limits_6 : decode cL_limits 6 = .ok (.if_icmp .ne 25, 3) := by decide +kernel
theorem dL_limits_9 : decode cL_limits 9 = .ok (.aload_n 0, 1) := by decide +kernel
theorem dL_limits_10 : decode cL_limits 10 = .ok (.iconst 0, 1) := by decide +kernel
theorem dL_limits_11 : decode cL_limits 11 = .ok (.invokevirtual 53, 3) := by decide +kernel
theorem dL_limits_14 : decode cL_limits 14 = .ok (.iload_n 2, 1) := by decide +kernel
theorem dL_limits_15 : decode cL_limits 15 = .ok (.if_icmp .ne 16, 3) := by decide +kernel
theorem dL_limits_18 : decode cL_limits 18 = .ok (.aload_n 0, 1) := by decide +kernel
theorem dL_limits_19 : decode cL_limits 19 = .ok (.iconst 0, 1) := by decide +kernel
theorem dL_limits_20 : decode cL_limits 20 = .ok (.invokevirtual 56, 3) := by decide +kernel
theorem dL_limits_23 : decode cL_limits 23 = .ok (.iload_n 3, 1) := by decide +kernel
theorem dL_limits_24 : decode cL_limits 24 = .ok (.if_icmp .ne 7, 3) := by decide +kernel
theorem dL_limits_27 : decode cL_limits 27 = .ok (.iconst 1, 1) := by decide +kernel
theorem dL_limits_28 : decode cL_limits 28 = .ok (.goto 4, 3) := by decide +kernel
theorem dL_limits_31 : decode cL_limits 31 = .ok (.iconst 0, 1) := by decide +kernel
theorem dL_limits_32 : decode cL_limits 32 = .ok (.ireturn, 1) := by decide +kernel
theorem dL_breaks_0 : decode cL_breaks 0 = .ok (.aload_n 0, 1) := by decide +kernel
theorem dL_breaks_1 : decode cL_breaks 1 = .ok (.iload_n 1, 1) := by decide +kernel
theorem dL_breaks_2 : decode cL_breaks 2 = .ok (.invokevirtual 59, 3) := by decide +kernel
theorem dL_breaks_5 : decode cL_breaks 5 = .ok (.iload_n 2, 1) := by decide +kernel
theorem dL_breaks_6 : decode cL_breaks 6 = .ok (.if_icmp .ne 16, 3) := by decide +kernel
theorem dL_breaks_9 : decode cL_breaks 9 = .ok (.aload_n 0, 1) := by decide +kernel
theorem dL_breaks_10 : decode cL_breaks 10 = .ok (.iload_n 1, 1) := by decide +kernel
theorem dL_breaks_11 : decode cL_breaks 11 = .ok (.invokevirtual 62, 3) := by decide +kernel
theorem dL_breaks_14 : decode cL_breaks 14 = .ok (.iload_n 2, 1) := by decide +kernel
theorem dL_breaks_15 : decode cL_breaks 15 = .ok (.if_icmp .ne 7, 3) := by decide +kernel
theorem dL_breaks_18 : decode cL_breaks 18 = .ok (.iconst 1, 1) := by decide +kernel
theorem dL_breaks_19 : decode cL_breaks 19 = .ok (.goto 4, 3) := by decide +kernel
theorem dL_breaks_22 : decode cL_breaks 22 = .ok (.iconst 0, 1) := by decide +kernel
theorem dL_breaks_23 : decode cL_breaks 23 = .ok (.ireturn, 1) := by decide +kernel
theorem dL_charts_0 : decode cL_charts 0 = .ok (.new 8, 3) := by decide +kernel
theorem dL_charts_3 : decode cL_charts 3 = .ok (.dup, 1) := by decide +kernel
theorem dL_charts_4 : decode cL_charts 4 = .ok (.invokespecial 116, 3) := by decide +kernel
theorem dL_charts_7 : decode cL_charts 7 = .ok (.astore_n 0, 1) := by decide +kernel
theorem dL_charts_8 : decode cL_charts 8 = .ok (.aload_n 0, 1) := by decide +kernel
theorem dL_charts_9 : decode cL_charts 9 = .ok (.invokevirtual 91, 3) := by decide +kernel
theorem dL_charts_12 : decode cL_charts 12 = .ok (.ifCond .ne 358, 3) := by decide +kernel
theorem dL_charts_15 : decode cL_charts 15 = .ok (.aload_n 0, 1) := by decide +kernel
theorem dL_charts_16 : decode cL_charts 16 = .ok (.invokevirtual 94, 3) := by decide +kernel
theorem dL_charts_19 : decode cL_charts 19 = .ok (.iconst 1, 1) := by decide +kernel
theorem dL_charts_20 : decode cL_charts 20 = .ok (.if_icmp .ne 350, 3) := by decide +kernel
theorem dL_charts_23 : decode cL_charts 23 = .ok (.aload_n 0, 1) := by decide +kernel
theorem dL_charts_24 : decode cL_charts 24 = .ok (.iconst 0, 1) := by decide +kernel
theorem dL_charts_25 : decode cL_charts 25 = .ok (.invokevirtual 47, 3) := by decide +kernel
theorem dL_charts_28 : decode cL_charts 28 = .ok (.ifCond .ne 342, 3) := by decide +kernel
theorem dL_charts_31 : decode cL_charts 31 = .ok (.aload_n 0, 1) := by decide +kernel
theorem dL_charts_32 : decode cL_charts 32 = .ok (.invokevirtual 97, 3) := by decide +kernel
theorem dL_charts_35 : decode cL_charts 35 = .ok (.ifCond .ne 335, 3) := by decide +kernel
theorem dL_charts_38 : decode cL_charts 38 = .ok (.aload_n 0, 1) := by decide +kernel
theorem dL_charts_39 : decode cL_charts 39 = .ok (.bipush 7, 2) := by decide +kernel
theorem dL_charts_41 : decode cL_charts 41 = .ok (.iconst 0, 1) := by decide +kernel
theorem dL_charts_42 : decode cL_charts 42 = .ok (.iconst 0, 1) := by decide +kernel
theorem dL_charts_43 : decode cL_charts 43 = .ok (.iconst 0, 1) := by decide +kernel
theorem dL_charts_44 : decode cL_charts 44 = .ok (.invokestatic 112, 3) := by decide +kernel
theorem dL_charts_47 : decode cL_charts 47 = .ok (.ldc2_w 89, 3) := by decide +kernel
theorem dL_charts_50 : decode cL_charts 50 = .ok (.lcmp, 1) := by decide +kernel
theorem dL_charts_51 : decode cL_charts 51 = .ok (.ifCond .ne 319, 3) := by decide +kernel
theorem dL_charts_54 : decode cL_charts 54 = .ok (.aload_n 0, 1) := by decide +kernel
theorem dL_charts_55 : decode cL_charts 55 = .ok (.bipush 17, 2) := by decide +kernel
theorem dL_charts_57 : decode cL_charts 57 = .ok (.iconst 0, 1) := by decide +kernel
theorem dL_charts_58 : decode cL_charts 58 = .ok (.iconst 0, 1) := by decide +kernel
theorem dL_charts_59 : decode cL_charts 59 = .ok (.iconst 0, 1) := by decide +kernel
theorem dL_charts_60 : decode cL_charts 60 = .ok (.invokestatic 112, 3) := by decide +kernel
theorem dL_charts_63 : decode cL_charts 63 = .ok (.ldc2_w 89, 3) := by decide +kernel
theorem dL_charts_66 : decode cL_charts 66 = .ok (.lcmp, 1) := by decide +kernel
theorem dL_charts_67 : decode cL_charts 67 = .ok (.ifCond .ne 303, 3) := by decide +kernel
theorem dL_charts_70 : decode cL_charts 70 = .ok (.aload_n 0, 1) := by decide +kernel
theorem dL_charts_71 : decode cL_charts 71 = .ok (.iconst 0, 1) := by decide +kernel
theorem dL_charts_72 : decode cL_charts 72 = .ok (.invokestatic 106, 3) := by decide +kernel
theorem dL_charts_75 : decode cL_charts 75 = .ok (.bipush (-13), 2) := by decide +kernel
theorem dL_charts_77 : decode cL_charts 77 = .ok (.if_icmp .ne 293, 3) := by decide +kernel
theorem dL_charts_80 : decode cL_charts 80 = .ok (.aload_n 0, 1) := by decide +kernel
theorem dL_charts_81 : decode cL_charts 81 = .ok (.iconst 0, 1) := by decide +kernel
theorem dL_charts_82 : decode cL_charts 82 = .ok (.invokestatic 109, 3) := by decide +kernel
theorem dL_charts_85 : decode cL_charts 85 = .ok (.bipush (-13), 2) := by decide +kernel
theorem dL_charts_87 : decode cL_charts 87 = .ok (.if_icmp .ne 283, 3) := by decide +kernel
theorem dL_charts_90 : decode cL_charts 90 = .ok (.aload_n 0, 1) := by decide +kernel
theorem dL_charts_91 : decode cL_charts 91 = .ok (.iconst 1, 1) := by decide +kernel
theorem dL_charts_92 : decode cL_charts 92 = .ok (.iconst 0, 1) := by decide +kernel
theorem dL_charts_93 : decode cL_charts 93 = .ok (.iconst 0, 1) := by decide +kernel
theorem dL_charts_94 : decode cL_charts 94 = .ok (.iconst 0, 1) := by decide +kernel
theorem dL_charts_95 : decode cL_charts 95 = .ok (.invokestatic 112, 3) := by decide +kernel
theorem dL_charts_98 : decode cL_charts 98 = .ok (.ldc2_w 89, 3) := by decide +kernel
theorem dL_charts_101 : decode cL_charts 101 = .ok (.lcmp, 1) := by decide +kernel
theorem dL_charts_102 : decode cL_charts 102 = .ok (.ifCond .ne 268, 3) := by decide +kernel
theorem dL_charts_105 : decode cL_charts 105 = .ok (.aload_n 0, 1) := by decide +kernel
theorem dL_charts_106 : decode cL_charts 106 = .ok (.invokestatic 117, 3) := by decide +kernel
theorem dL_charts_109 : decode cL_charts 109 = .ok (.ifCond .eq 261, 3) := by decide +kernel
theorem dL_charts_112 : decode cL_charts 112 = .ok (.aload_n 0, 1) := by decide +kernel
theorem dL_charts_113 : decode cL_charts 113 = .ok (.iconst 2, 1) := by decide +kernel
theorem dL_charts_114 : decode cL_charts 114 = .ok (.invokestatic 101, 3) := by decide +kernel
theorem dL_charts_117 : decode cL_charts 117 = .ok (.ifCond .ne 253, 3) := by decide +kernel
theorem dL_charts_120 : decode cL_charts 120 = .ok (.aload_n 0, 1) := by decide +kernel
theorem dL_charts_121 : decode cL_charts 121 = .ok (.bipush 10, 2) := by decide +kernel
theorem dL_charts_123 : decode cL_charts 123 = .ok (.bipush 12, 2) := by decide +kernel
theorem dL_charts_125 : decode cL_charts 125 = .ok (.invokestatic 121, 3) := by decide +kernel
theorem dL_charts_128 : decode cL_charts 128 = .ok (.ifCond .eq 242, 3) := by decide +kernel
theorem dL_charts_131 : decode cL_charts 131 = .ok (.aload_n 0, 1) := by decide +kernel
theorem dL_charts_132 : decode cL_charts 132 = .ok (.iconst 0, 1) := by decide +kernel
theorem dL_charts_133 : decode cL_charts 133 = .ok (.invokevirtual 37, 3) := by decide +kernel
theorem dL_charts_136 : decode cL_charts 136 = .ok (.sipush 11000, 3) := by decide +kernel
theorem dL_charts_139 : decode cL_charts 139 = .ok (.if_icmp .ne 231, 3) := by decide +kernel
theorem dL_charts_142 : decode cL_charts 142 = .ok (.aload_n 0, 1) := by decide +kernel
theorem dL_charts_143 : decode cL_charts 143 = .ok (.iconst 0, 1) := by decide +kernel
theorem dL_charts_144 : decode cL_charts 144 = .ok (.invokevirtual 41, 3) := by decide +kernel
theorem dL_charts_147 : decode cL_charts 147 = .ok (.iconst 2, 1) := by decide +kernel
theorem dL_charts_148 : decode cL_charts 148 = .ok (.if_icmp .ne 222, 3) := by decide +kernel
theorem dL_charts_151 : decode cL_charts 151 = .ok (.aload_n 0, 1) := by decide +kernel
theorem dL_charts_152 : decode cL_charts 152 = .ok (.iconst 0, 1) := by decide +kernel
theorem dL_charts_153 : decode cL_charts 153 = .ok (.invokestatic 106, 3) := by decide +kernel
theorem dL_charts_156 : decode cL_charts 156 = .ok (.bipush (-13), 2) := by decide +kernel
theorem dL_charts_158 : decode cL_charts 158 = .ok (.if_icmp .ne 212, 3) := by decide +kernel
theorem dL_charts_161 : decode cL_charts 161 = .ok (.aload_n 0, 1) := by decide +kernel
theorem dL_charts_162 : decode cL_charts 162 = .ok (.bipush 9, 2) := by decide +kernel
theorem dL_charts_164 : decode cL_charts 164 = .ok (.bipush 9, 2) := by decide +kernel
theorem dL_charts_166 : decode cL_charts 166 = .ok (.invokestatic 121, 3) := by decide +kernel
theorem dL_charts_169 : decode cL_charts 169 = .ok (.ifCond .eq 201, 3) := by decide +kernel
theorem dL_charts_172 : decode cL_charts 172 = .ok (.aload_n 0, 1) := by decide +kernel
theorem dL_charts_173 : decode cL_charts 173 = .ok (.sipush 10000, 3) := by decide +kernel
theorem dL_charts_176 : decode cL_charts 176 = .ok (.sipush 1880, 3) := by decide +kernel
theorem dL_charts_179 : decode cL_charts 179 = .ok (.sipush 3267, 3) := by decide +kernel
theorem dL_charts_182 : decode cL_charts 182 = .ok (.invokestatic 125, 3) := by decide +kernel
theorem dL_charts_185 : decode cL_charts 185 = .ok (.ifCond .eq 185, 3) := by decide +kernel
theorem dL_charts_188 : decode cL_charts 188 = .ok (.aload_n 0, 1) := by decide +kernel
theorem dL_charts_189 : decode cL_charts 189 = .ok (.iconst 1, 1) := by decide +kernel
theorem dL_charts_190 : decode cL_charts 190 = .ok (.iconst 0, 1) := by decide +kernel
theorem dL_charts_191 : decode cL_charts 191 = .ok (.invokestatic 129, 3) := by decide +kernel
theorem dL_charts_194 : decode cL_charts 194 = .ok (.ifCond .eq 176, 3) := by decide +kernel
theorem dL_charts_197 : decode cL_charts 197 = .ok (.aload_n 0, 1) := by decide +kernel
theorem dL_charts_198 : decode cL_charts 198 = .ok (.bipush 20, 2) := by decide +kernel
theorem dL_charts_200 : decode cL_charts 200 = .ok (.bipush 16, 2) := by decide +kernel
theorem dL_charts_202 : decode cL_charts 202 = .ok (.invokestatic 121, 3) := by decide +kernel
theorem dL_charts_205 : decode cL_charts 205 = .ok (.ifCond .eq 165, 3) := by decide +kernel
theorem dL_charts_208 : decode cL_charts 208 = .ok (.aload_n 0, 1) := by decide +kernel
theorem dL_charts_209 : decode cL_charts 209 = .ok (.sipush 12667, 3) := by decide +kernel
theorem dL_charts_212 : decode cL_charts 212 = .ok (.sipush 3760, 3) := by decide +kernel
theorem dL_charts_215 : decode cL_charts 215 = .ok (.sipush 6534, 3) := by decide +kernel
theorem dL_charts_218 : decode cL_charts 218 = .ok (.invokestatic 125, 3) := by decide +kernel
theorem dL_charts_221 : decode cL_charts 221 = .ok (.ifCond .eq 149, 3) := by decide +kernel
theorem dL_charts_224 : decode cL_charts 224 = .ok (.aload_n 0, 1) := by decide +kernel
theorem dL_charts_225 : decode cL_charts 225 = .ok (.iconst 2, 1) := by decide +kernel
theorem dL_charts_226 : decode cL_charts 226 = .ok (.iconst 2, 1) := by decide +kernel
theorem dL_charts_227 : decode cL_charts 227 = .ok (.invokestatic 129, 3) := by decide +kernel
theorem dL_charts_230 : decode cL_charts 230 = .ok (.ifCond .eq 140, 3) := by decide +kernel
theorem dL_charts_233 : decode cL_charts 233 = .ok (.aload_n 0, 1) := by decide +kernel
theorem dL_charts_234 : decode cL_charts 234 = .ok (.iconst 1, 1) := by decide +kernel
theorem dL_charts_235 : decode cL_charts 235 = .ok (.iconst 0, 1) := by decide +kernel
theorem dL_charts_236 : decode cL_charts 236 = .ok (.invokestatic 129, 3) := by decide +kernel
theorem dL_charts_239 : decode cL_charts 239 = .ok (.ifCond .eq 131, 3) := by decide +kernel
theorem dL_charts_242 : decode cL_charts 242 = .ok (.aload_n 0, 1) := by decide +kernel
theorem dL_charts_243 : decode cL_charts 243 = .ok (.iconst 2, 1) := by decide +kernel
theorem dL_charts_244 : decode cL_charts 244 = .ok (.invokevirtual 68, 3) := by decide +kernel
theorem dL_charts_247 : decode cL_charts 247 = .ok (.ifCond .ne 123, 3) := by decide +kernel
theorem dL_charts_250 : decode cL_charts 250 = .ok (.aload_n 0, 1) := by decide +kernel
theorem dL_charts_251 : decode cL_charts 251 = .ok (.iconst 0, 1) := by decide +kernel
theorem dL_charts_252 : decode cL_charts 252 = .ok (.invokestatic 106, 3) := by decide +kernel
theorem dL_charts_255 : decode cL_charts 255 = .ok (.ifCond .ne 115, 3) := by decide +kernel
theorem dL_charts_258 : decode cL_charts 258 = .ok (.aload_n 0, 1) := by decide +kernel
theorem dL_charts_259 : decode cL_charts 259 = .ok (.iconst 0, 1) := by decide +kernel
theorem dL_charts_260 : decode cL_charts 260 = .ok (.invokestatic 106, 3) := by decide +kernel
theorem dL_charts_263 : decode cL_charts 263 = .ok (.bipush (-13), 2) := by decide +kernel
theorem dL_charts_265 : decode cL_charts 265 = .ok (.if_icmp .ne 105, 3) := by decide +kernel
theorem dL_charts_268 : decode cL_charts 268 = .ok (.aload_n 0, 1) := by decide +kernel
theorem dL_charts_269 : decode cL_charts 269 = .ok (.iconst 0, 1) := by decide +kernel
theorem dL_charts_270 : decode cL_charts 270 = .ok (.bipush 50, 2) := by decide +kernel
theorem dL_charts_272 : decode cL_charts 272 = .ok (.invokestatic 121, 3) := by decide +kernel
theorem dL_charts_275 : decode cL_charts 275 = .ok (.ifCond .eq 95, 3) := by decide +kernel
theorem dL_charts_278 : decode cL_charts 278 = .ok (.aload_n 0, 1) := by decide +kernel
theorem dL_charts_279 : decode cL_charts 279 = .ok (.sipush 12667, 3) := by decide +kernel
theorem dL_charts_282 : decode cL_charts 282 = .ok (.sipush 3760, 3) := by decide +kernel
theorem dL_charts_285 : decode cL_charts 285 = .ok (.sipush 6534, 3) := by decide +kernel
theorem dL_charts_288 : decode cL_charts 288 = .ok (.invokestatic 125, 3) := by decide +kernel
theorem dL_charts_291 : decode cL_charts 291 = .ok (.ifCond .eq 79, 3) := by decide +kernel
theorem dL_charts_294 : decode cL_charts 294 = .ok (.aload_n 0, 1) := by decide +kernel
theorem dL_charts_295 : decode cL_charts 295 = .ok (.iconst 3, 1) := by decide +kernel
theorem dL_charts_296 : decode cL_charts 296 = .ok (.invokevirtual 68, 3) := by decide +kernel
theorem dL_charts_299 : decode cL_charts 299 = .ok (.ifCond .eq 71, 3) := by decide +kernel
theorem dL_charts_302 : decode cL_charts 302 = .ok (.aload_n 0, 1) := by decide +kernel
theorem dL_charts_303 : decode cL_charts 303 = .ok (.iconst 3, 1) := by decide +kernel
theorem dL_charts_304 : decode cL_charts 304 = .ok (.bipush 34, 2) := by decide +kernel
theorem dL_charts_306 : decode cL_charts 306 = .ok (.invokestatic 129, 3) := by decide +kernel
theorem dL_charts_309 : decode cL_charts 309 = .ok (.ifCond .eq 61, 3) := by decide +kernel
theorem dL_charts_312 : decode cL_charts 312 = .ok (.aload_n 0, 1) := by decide +kernel
theorem dL_charts_313 : decode cL_charts 313 = .ok (.iconst 3, 1) := by decide +kernel
theorem dL_charts_314 : decode cL_charts 314 = .ok (.iconst 5, 1) := by decide +kernel
theorem dL_charts_315 : decode cL_charts 315 = .ok (.invokevirtual 65, 3) := by decide +kernel
theorem dL_charts_318 : decode cL_charts 318 = .ok (.iconst 1, 1) := by decide +kernel
theorem dL_charts_319 : decode cL_charts 319 = .ok (.if_icmp .ne 51, 3) := by decide +kernel
theorem dL_charts_322 : decode cL_charts 322 = .ok (.aload_n 0, 1) := by decide +kernel
theorem dL_charts_323 : decode cL_charts 323 = .ok (.iconst 3, 1) := by decide +kernel
theorem dL_charts_324 : decode cL_charts 324 = .ok (.iconst 1, 1) := by decide +kernel
theorem dL_charts_325 : decode cL_charts 325 = .ok (.invokevirtual 65, 3) := by decide +kernel
theorem dL_charts_328 : decode cL_charts 328 = .ok (.iconst 3, 1) := by decide +kernel
theorem dL_charts_329 : decode cL_charts 329 = .ok (.if_icmp .ne 41, 3) := by decide +kernel
theorem dL_charts_332 : decode cL_charts 332 = .ok (.aload_n 0, 1) := by decide +kernel
theorem dL_charts_333 : decode cL_charts 333 = .ok (.iconst 3, 1) := by decide +kernel
theorem dL_charts_334 : decode cL_charts 334 = .ok (.iconst 2, 1) := by decide +kernel
theorem dL_charts_335 : decode cL_charts 335 = .ok (.invokevirtual 65, 3) := by decide +kernel
theorem dL_charts_338 : decode cL_charts 338 = .ok (.iconst (-1), 1) := by decide +kernel
theorem dL_charts_339 : decode cL_charts 339 = .ok (.if_icmp .ne 31, 3) := by decide +kernel
theorem dL_charts_342 : decode cL_charts 342 = .ok (.aload_n 0, 1) := by decide +kernel
theorem dL_charts_343 : decode cL_charts 343 = .ok (.invokevirtual 97, 3) := by decide +kernel
theorem dL_charts_346 : decode cL_charts 346 = .ok (.iconst 2, 1) := by decide +kernel
theorem dL_charts_347 : decode cL_charts 347 = .ok (.if_icmp .ne 23, 3) := by decide +kernel
theorem dL_charts_350 : decode cL_charts 350 = .ok (.aload_n 0, 1) := by decide +kernel
theorem dL_charts_351 : decode cL_charts 351 = .ok (.iconst 1, 1) := by decide +kernel
theorem dL_charts_352 : decode cL_charts 352 = .ok (.invokevirtual 71, 3) := by decide +kernel
theorem dL_charts_355 : decode cL_charts 355 = .ok (.iconst 2, 1) := by decide +kernel
theorem dL_charts_356 : decode cL_charts 356 = .ok (.if_icmp .ne 14, 3) := by decide +kernel
theorem dL_charts_359 : decode cL_charts 359 = .ok (.aload_n 0, 1) := by decide +kernel
theorem dL_charts_360 : decode cL_charts 360 = .ok (.iconst 0, 1) := by decide +kernel
theorem dL_charts_361 : decode cL_charts 361 = .ok (.invokevirtual 74, 3) := by decide +kernel
theorem dL_charts_364 : decode cL_charts 364 = .ok (.sipush 12500, 3) := by decide +kernel
theorem dL_charts_367 : decode cL_charts 367 = .ok (.if_icmp .eq 5, 3) := by decide +kernel
theorem dL_charts_370 : decode cL_charts 370 = .ok (.iconst 0, 1) := by decide +kernel
theorem dL_charts_371 : decode cL_charts 371 = .ok (.ireturn, 1) := by decide +kernel
theorem dL_charts_372 : decode cL_charts 372 = .ok (.aload_n 0, 1) := by decide +kernel
theorem dL_charts_373 : decode cL_charts 373 = .ok (.iconst 0, 1) := by decide +kernel
theorem dL_charts_374 : decode cL_charts 374 = .ok (.invokestatic 109, 3) := by decide +kernel
theorem dL_charts_377 : decode cL_charts 377 = .ok (.ifCond .ne 210, 3) := by decide +kernel
theorem dL_charts_380 : decode cL_charts 380 = .ok (.aload_n 0, 1) := by decide +kernel
theorem dL_charts_381 : decode cL_charts 381 = .ok (.iconst 0, 1) := by decide +kernel
theorem dL_charts_382 : decode cL_charts 382 = .ok (.invokestatic 109, 3) := by decide +kernel
theorem dL_charts_385 : decode cL_charts 385 = .ok (.bipush (-13), 2) := by decide +kernel
theorem dL_charts_387 : decode cL_charts 387 = .ok (.if_icmp .ne 200, 3) := by decide +kernel
theorem dL_charts_390 : decode cL_charts 390 = .ok (.aload_n 0, 1) := by decide +kernel
theorem dL_charts_391 : decode cL_charts 391 = .ok (.sipush 15750, 3) := by decide +kernel
theorem dL_charts_394 : decode cL_charts 394 = .ok (.sipush 26320, 3) := by decide +kernel
theorem dL_charts_397 : decode cL_charts 397 = .ok (.ldc 132, 2) := by decide +kernel
theorem dL_charts_399 : decode cL_charts 399 = .ok (.invokestatic 125, 3) := by decide +kernel
theorem dL_charts_402 : decode cL_charts 402 = .ok (.ifCond .eq 185, 3) := by decide +kernel
theorem dL_charts_405 : decode cL_charts 405 = .ok (.aload_n 0, 1) := by decide +kernel
theorem dL_charts_406 : decode cL_charts 406 = .ok (.iconst 3, 1) := by decide +kernel
theorem dL_charts_407 : decode cL_charts 407 = .ok (.invokevirtual 68, 3) := by decide +kernel
theorem dL_charts_410 : decode cL_charts 410 = .ok (.ifCond .eq 177, 3) := by decide +kernel
theorem dL_charts_413 : decode cL_charts 413 = .ok (.aload_n 0, 1) := by decide +kernel
theorem dL_charts_414 : decode cL_charts 414 = .ok (.invokevirtual 97, 3) := by decide +kernel
theorem dL_charts_417 : decode cL_charts 417 = .ok (.ifCond .ne 170, 3) := by decide +kernel
theorem dL_charts_420 : decode cL_charts 420 = .ok (.aload_n 0, 1) := by decide +kernel
theorem dL_charts_421 : decode cL_charts 421 = .ok (.iconst 2, 1) := by decide +kernel
theorem dL_charts_422 : decode cL_charts 422 = .ok (.invokevirtual 71, 3) := by decide +kernel
theorem dL_charts_425 : decode cL_charts 425 = .ok (.iconst 1, 1) := by decide +kernel
theorem dL_charts_426 : decode cL_charts 426 = .ok (.if_icmp .ne 161, 3) := by decide +kernel
theorem dL_charts_429 : decode cL_charts 429 = .ok (.aload_n 0, 1) := by decide +kernel
theorem dL_charts_430 : decode cL_charts 430 = .ok (.iconst 0, 1) := by decide +kernel
theorem dL_charts_431 : decode cL_charts 431 = .ok (.invokevirtual 74, 3) := by decide +kernel
theorem dL_charts_434 : decode cL_charts 434 = .ok (.sipush 14800, 3) := by decide +kernel
theorem dL_charts_437 : decode cL_charts 437 = .ok (.if_icmp .ne 150, 3) := by decide +kernel
theorem dL_charts_440 : decode cL_charts 440 = .ok (.aload_n 0, 1) := by decide +kernel
theorem dL_charts_441 : decode cL_charts 441 = .ok (.iconst 1, 1) := by decide +kernel
theorem dL_charts_442 : decode cL_charts 442 = .ok (.invokevirtual 74, 3) := by decide +kernel
theorem dL_charts_445 : decode cL_charts 445 = .ok (.sipush 13640, 3) := by decide +kernel
theorem dL_charts_448 : decode cL_charts 448 = .ok (.if_icmp .ne 139, 3) := by decide +kernel
theorem dL_charts_451 : decode cL_charts 451 = .ok (.aload_n 0, 1) := by decide +kernel
theorem dL_charts_452 : decode cL_charts 452 = .ok (.iconst 2, 1) := by decide +kernel
theorem dL_charts_453 : decode cL_charts 453 = .ok (.invokevirtual 74, 3) := by decide +kernel
theorem dL_charts_456 : decode cL_charts 456 = .ok (.sipush 14512, 3) := by decide +kernel
theorem dL_charts_459 : decode cL_charts 459 = .ok (.if_icmp .ne 128, 3) := by decide +kernel
theorem dL_charts_462 : decode cL_charts 462 = .ok (.aload_n 0, 1) := by decide +kernel
theorem dL_charts_463 : decode cL_charts 463 = .ok (.iconst 0, 1) := by decide +kernel
theorem dL_charts_464 : decode cL_charts 464 = .ok (.iconst 1, 1) := by decide +kernel
theorem dL_charts_465 : decode cL_charts 465 = .ok (.invokevirtual 77, 3) := by decide +kernel
theorem dL_charts_468 : decode cL_charts 468 = .ok (.ifCond .ne 119, 3) := by decide +kernel
theorem dL_charts_471 : decode cL_charts 471 = .ok (.aload_n 0, 1) := by decide +kernel
theorem dL_charts_472 : decode cL_charts 472 = .ok (.iconst 3, 1) := by decide +kernel
theorem dL_charts_473 : decode cL_charts 473 = .ok (.iconst 1, 1) := by decide +kernel
theorem dL_charts_474 : decode cL_charts 474 = .ok (.invokevirtual 77, 3) := by decide +kernel
theorem dL_charts_477 : decode cL_charts 477 = .ok (.sipush 4864, 3) := by decide +kernel
theorem dL_charts_480 : decode cL_charts 480 = .ok (.if_icmp .ne 107, 3) := by decide +kernel
theorem dL_charts_483 : decode cL_charts 483 = .ok (.aload_n 0, 1) := by decide +kernel
theorem dL_charts_484 : decode cL_charts 484 = .ok (.iconst 0, 1) := by decide +kernel
theorem dL_charts_485 : decode cL_charts 485 = .ok (.iconst 0, 1) := by decide +kernel
theorem dL_charts_486 : decode cL_charts 486 = .ok (.invokevirtual 77, 3) := by decide +kernel
theorem dL_charts_489 : decode cL_charts 489 = .ok (.sipush 364, 3) := by decide +kernel
theorem dL_charts_492 : decode cL_charts 492 = .ok (.if_icmp .ne 95, 3) := by decide +kernel
theorem dL_charts_495 : decode cL_charts 495 = .ok (.aload_n 0, 1) := by decide +kernel
theorem dL_charts_496 : decode cL_charts 496 = .ok (.iconst 1, 1) := by decide +kernel
theorem dL_charts_497 : decode cL_charts 497 = .ok (.iconst 0, 1) := by decide +kernel
theorem dL_charts_498 : decode cL_charts 498 = .ok (.invokevirtual 77, 3) := by decide +kernel
theorem dL_charts_501 : decode cL_charts 501 = .ok (.sipush 2728, 3) := by decide +kernel
theorem dL_charts_504 : decode cL_charts 504 = .ok (.if_icmp .ne 83, 3) := by decide +kernel
theorem dL_charts_507 : decode cL_charts 507 = .ok (.aload_n 0, 1) := by decide +kernel
theorem dL_charts_508 : decode cL_charts 508 = .ok (.iconst 2, 1) := by decide +kernel
theorem dL_charts_509 : decode cL_charts 509 = .ok (.iconst 0, 1) := by decide +kernel
theorem dL_charts_510 : decode cL_charts 510 = .ok (.invokevirtual 77, 3) := by decide +kernel
theorem dL_charts_513 : decode cL_charts 513 = .ok (.ifCond .ne 74, 3) := by decide +kernel
theorem dL_charts_516 : decode cL_charts 516 = .ok (.aload_n 0, 1) := by decide +kernel
theorem dL_charts_517 : decode cL_charts 517 = .ok (.iconst 0, 1) := by decide +kernel
theorem dL_charts_518 : decode cL_charts 518 = .ok (.iconst 0, 1) := by decide +kernel
theorem dL_charts_519 : decode cL_charts 519 = .ok (.bipush 30, 2) := by decide +kernel
theorem dL_charts_521 : decode cL_charts 521 = .ok (.iconst 0, 1) := by decide +kernel
theorem dL_charts_522 : decode cL_charts 522 = .ok (.invokevirtual 81, 3) := by decide +kernel
theorem dL_charts_525 : decode cL_charts 525 = .ok (.ldc2_w 133, 3) := by decide +kernel
theorem dL_charts_528 : decode cL_charts 528 = .ok (.lcmp, 1) := by decide +kernel
theorem dL_charts_529 : decode cL_charts 529 = .ok (.ifCond .ne 58, 3) := by decide +kernel
theorem dL_charts_532 : decode cL_charts 532 = .ok (.aload_n 0, 1) := by decide +kernel
theorem dL_charts_533 : decode cL_charts 533 = .ok (.iconst 0, 1) := by decide +kernel
theorem dL_charts_534 : decode cL_charts 534 = .ok (.iconst 0, 1) := by decide +kernel
theorem dL_charts_535 : decode cL_charts 535 = .ok (.bipush 30, 2) := by decide +kernel
theorem dL_charts_537 : decode cL_charts 537 = .ok (.iconst 1, 1) := by decide +kernel
theorem dL_charts_538 : decode cL_charts 538 = .ok (.invokevirtual 81, 3) := by decide +kernel
theorem dL_charts_541 : decode cL_charts 541 = .ok (.ldc2_w 135, 3) := by decide +kernel
theorem dL_charts_544 : decode cL_charts 544 = .ok (.lcmp, 1) := by decide +kernel
theorem dL_charts_545 : decode cL_charts 545 = .ok (.ifCond .ne 42, 3) := by decide +kernel
theorem dL_charts_548 : decode cL_charts 548 = .ok (.aload_n 0, 1) := by decide +kernel
theorem dL_charts_549 : decode cL_charts 549 = .ok (.iconst 0, 1) := by decide +kernel
theorem dL_charts_550 : decode cL_charts 550 = .ok (.bipush 20, 2) := by decide +kernel
theorem dL_charts_552 : decode cL_charts 552 = .ok (.bipush 30, 2) := by decide +kernel
theorem dL_charts_554 : decode cL_charts 554 = .ok (.iconst 1, 1) := by decide +kernel
theorem dL_charts_555 : decode cL_charts 555 = .ok (.invokevirtual 81, 3) := by decide +kernel
theorem dL_charts_558 : decode cL_charts 558 = .ok (.ldc2_w 137, 3) := by decide +kernel
theorem dL_charts_561 : decode cL_charts 561 = .ok (.lcmp, 1) := by decide +kernel
theorem dL_charts_562 : decode cL_charts 562 = .ok (.ifCond .ne 25, 3) := by decide +kernel
theorem dL_charts_565 : decode cL_charts 565 = .ok (.aload_n 0, 1) := by decide +kernel
theorem dL_charts_566 : decode cL_charts 566 = .ok (.iconst 0, 1) := by decide +kernel
theorem dL_charts_567 : decode cL_charts 567 = .ok (.bipush 7, 2) := by decide +kernel
theorem dL_charts_569 : decode cL_charts 569 = .ok (.bipush 7, 2) := by decide +kernel
theorem dL_charts_571 : decode cL_charts 571 = .ok (.iconst 0, 1) := by decide +kernel
theorem dL_charts_572 : decode cL_charts 572 = .ok (.invokevirtual 81, 3) := by decide +kernel
theorem dL_charts_575 : decode cL_charts 575 = .ok (.lconst 0, 1) := by decide +kernel
theorem dL_charts_576 : decode cL_charts 576 = .ok (.lcmp, 1) := by decide +kernel
theorem dL_charts_577 : decode cL_charts 577 = .ok (.ifCond .ne 10, 3) := by decide +kernel
theorem dL_charts_580 : decode cL_charts 580 = .ok (.aload_n 0, 1) := by decide +kernel
theorem dL_charts_581 : decode cL_charts 581 = .ok (.invokestatic 117, 3) := by decide +kernel
theorem dL_charts_584 : decode cL_charts 584 = .ok (.ifCond .ne 5, 3) := by decide +kernel
theorem dL_charts_587 : decode cL_charts 587 = .ok (.iconst 0, 1) := by decide +kernel
theorem dL_charts_588 : decode cL_charts 588 = .ok (.ireturn, 1) := by decide +kernel
theorem dL_charts_589 : decode cL_charts 589 = .ok (.aload_n 0, 1) := by decide +kernel
theorem dL_charts_590 : decode cL_charts 590 = .ok (.iconst 3, 1) := by decide +kernel
theorem dL_charts_591 : decode cL_charts 591 = .ok (.iconst 4, 1) := by decide +kernel
theorem dL_charts_592 : decode cL_charts 592 = .ok (.invokevirtual 33, 3) := by decide +kernel
theorem dL_charts_595 : decode cL_charts 595 = .ok (.ifCond .ne 215, 3) := by decide +kernel
theorem dL_charts_598 : decode cL_charts 598 = .ok (.aload_n 0, 1) := by decide +kernel
theorem dL_charts_599 : decode cL_charts 599 = .ok (.iconst 0, 1) := by decide +kernel
theorem dL_charts_600 : decode cL_charts 600 = .ok (.invokevirtual 47, 3) := by decide +kernel
theorem dL_charts_603 : decode cL_charts 603 = .ok (.iconst 3, 1) := by decide +kernel
theorem dL_charts_604 : decode cL_charts 604 = .ok (.if_icmp .ne 206, 3) := by decide +kernel
theorem dL_charts_607 : decode cL_charts 607 = .ok (.aload_n 0, 1) := by decide +kernel
theorem dL_charts_608 : decode cL_charts 608 = .ok (.sipush 12667, 3) := by decide +kernel
theorem dL_charts_611 : decode cL_charts 611 = .ok (.sipush 3760, 3) := by decide +kernel
theorem dL_charts_614 : decode cL_charts 614 = .ok (.sipush 6534, 3) := by decide +kernel
theorem dL_charts_617 : decode cL_charts 617 = .ok (.invokestatic 125, 3) := by decide +kernel
theorem dL_charts_620 : decode cL_charts 620 = .ok (.ifCond .eq 190, 3) := by decide +kernel
theorem dL_charts_623 : decode cL_charts 623 = .ok (.aload_n 0, 1) := by decide +kernel
theorem dL_charts_624 : decode cL_charts 624 = .ok (.iconst 3, 1) := by decide +kernel
theorem dL_charts_625 : decode cL_charts 625 = .ok (.bipush 9, 2) := by decide +kernel
theorem dL_charts_627 : decode cL_charts 627 = .ok (.invokevirtual 33, 3) := by decide +kernel
theorem dL_charts_630 : decode cL_charts 630 = .ok (.iconst 4, 1) := by decide +kernel
theorem dL_charts_631 : decode cL_charts 631 = .ok (.if_icmp .ne 179, 3) := by decide +kernel
theorem dL_charts_634 : decode cL_charts 634 = .ok (.aload_n 0, 1) := by decide +kernel
theorem dL_charts_635 : decode cL_charts 635 = .ok (.iconst 3, 1) := by decide +kernel
theorem dL_charts_636 : decode cL_charts 636 = .ok (.iconst 0, 1) := by decide +kernel
theorem dL_charts_637 : decode cL_charts 637 = .ok (.invokestatic 129, 3) := by decide +kernel
theorem dL_charts_640 : decode cL_charts 640 = .ok (.ifCond .eq 170, 3) := by decide +kernel
theorem dL_charts_643 : decode cL_charts 643 = .ok (.aload_n 0, 1) := by decide +kernel
theorem dL_charts_644 : decode cL_charts 644 = .ok (.iconst 3, 1) := by decide +kernel
theorem dL_charts_645 : decode cL_charts 645 = .ok (.iconst 1, 1) := by decide +kernel
theorem dL_charts_646 : decode cL_charts 646 = .ok (.invokevirtual 65, 3) := by decide +kernel
theorem dL_charts_649 : decode cL_charts 649 = .ok (.iconst (-1), 1) := by decide +kernel
theorem dL_charts_650 : decode cL_charts 650 = .ok (.if_icmp .ne 160, 3) := by decide +kernel
theorem dL_charts_653 : decode cL_charts 653 = .ok (.aload_n 0, 1) := by decide +kernel
theorem dL_charts_654 : decode cL_charts 654 = .ok (.iconst 3, 1) := by decide +kernel
theorem dL_charts_655 : decode cL_charts 655 = .ok (.invokevirtual 68, 3) := by decide +kernel
theorem dL_charts_658 : decode cL_charts 658 = .ok (.ifCond .ne 152, 3) := by decide +kernel
theorem dL_charts_661 : decode cL_charts 661 = .ok (.aload_n 0, 1) := by decide +kernel
theorem dL_charts_662 : decode cL_charts 662 = .ok (.bipush 15, 2) := by decide +kernel
theorem dL_charts_664 : decode cL_charts 664 = .ok (.iconst 3, 1) := by decide +kernel
theorem dL_charts_665 : decode cL_charts 665 = .ok (.iconst 0, 1) := by decide +kernel
theorem dL_charts_666 : decode cL_charts 666 = .ok (.iconst 0, 1) := by decide +kernel
theorem dL_charts_667 : decode cL_charts 667 = .ok (.invokestatic 112, 3) := by decide +kernel
theorem dL_charts_670 : decode cL_charts 670 = .ok (.ldc2_w 89, 3) := by decide +kernel
theorem dL_charts_673 : decode cL_charts 673 = .ok (.lcmp, 1) := by decide +kernel
theorem dL_charts_674 : decode cL_charts 674 = .ok (.ifCond .ne 136, 3) := by decide +kernel
theorem dL_charts_677 : decode cL_charts 677 = .ok (.aload_n 0, 1) := by decide +kernel
theorem dL_charts_678 : decode cL_charts 678 = .ok (.bipush 16, 2) := by decide +kernel
theorem dL_charts_680 : decode cL_charts 680 = .ok (.iconst 3, 1) := by decide +kernel
theorem dL_charts_681 : decode cL_charts 681 = .ok (.iconst 1, 1) := by decide +kernel
theorem dL_charts_682 : decode cL_charts 682 = .ok (.iconst 0, 1) := by decide +kernel
theorem dL_charts_683 : decode cL_charts 683 = .ok (.invokestatic 112, 3) := by decide +kernel
theorem dL_charts_686 : decode cL_charts 686 = .ok (.ldc2_w 89, 3) := by decide +kernel
theorem dL_charts_689 : decode cL_charts 689 = .ok (.lcmp, 1) := by decide +kernel
theorem dL_charts_690 : decode cL_charts 690 = .ok (.ifCond .ne 120, 3) := by decide +kernel
theorem dL_charts_693 : decode cL_charts 693 = .ok (.aload_n 0, 1) := by decide +kernel
theorem dL_charts_694 : decode cL_charts 694 = .ok (.iconst 2, 1) := by decide +kernel
theorem dL_charts_695 : decode cL_charts 695 = .ok (.iconst 2, 1) := by decide +kernel
theorem dL_charts_696 : decode cL_charts 696 = .ok (.invokestatic 129, 3) := by decide +kernel
theorem dL_charts_699 : decode cL_charts 699 = .ok (.ifCond .eq 111, 3) := by decide +kernel
theorem dL_charts_702 : decode cL_charts 702 = .ok (.aload_n 0, 1) := by decide +kernel
theorem dL_charts_703 : decode cL_charts 703 = .ok (.iconst 0, 1) := by decide +kernel
theorem dL_charts_704 : decode cL_charts 704 = .ok (.iconst 1, 1) := by decide +kernel
theorem dL_charts_705 : decode cL_charts 705 = .ok (.invokevirtual 33, 3) := by decide +kernel
theorem dL_charts_708 : decode cL_charts 708 = .ok (.ifCond .ne 102, 3) := by decide +kernel
theorem dL_charts_711 : decode cL_charts 711 = .ok (.aload_n 0, 1) := by decide +kernel
theorem dL_charts_712 : decode cL_charts 712 = .ok (.iconst 1, 1) := by decide +kernel
theorem dL_charts_713 : decode cL_charts 713 = .ok (.iconst 1, 1) := by decide +kernel
theorem dL_charts_714 : decode cL_charts 714 = .ok (.invokevirtual 33, 3) := by decide +kernel
theorem dL_charts_717 : decode cL_charts 717 = .ok (.ifCond .ne 93, 3) := by decide +kernel
theorem dL_charts_720 : decode cL_charts 720 = .ok (.aload_n 0, 1) := by decide +kernel
theorem dL_charts_721 : decode cL_charts 721 = .ok (.iconst 2, 1) := by decide +kernel
theorem dL_charts_722 : decode cL_charts 722 = .ok (.iconst 1, 1) := by decide +kernel
theorem dL_charts_723 : decode cL_charts 723 = .ok (.invokevirtual 33, 3) := by decide +kernel
theorem dL_charts_726 : decode cL_charts 726 = .ok (.ifCond .ne 84, 3) := by decide +kernel
theorem dL_charts_729 : decode cL_charts 729 = .ok (.aload_n 0, 1) := by decide +kernel
theorem dL_charts_730 : decode cL_charts 730 = .ok (.bipush 8, 2) := by decide +kernel
theorem dL_charts_732 : decode cL_charts 732 = .ok (.iconst 0, 1) := by decide +kernel
theorem dL_charts_733 : decode cL_charts 733 = .ok (.iconst 0, 1) := by decide +kernel
theorem dL_charts_734 : decode cL_charts 734 = .ok (.iconst 0, 1) := by decide +kernel
theorem dL_charts_735 : decode cL_charts 735 = .ok (.invokestatic 112, 3) := by decide +kernel
theorem dL_charts_738 : decode cL_charts 738 = .ok (.ldc2_w 89, 3) := by decide +kernel
theorem dL_charts_741 : decode cL_charts 741 = .ok (.lcmp, 1) := by decide +kernel
theorem dL_charts_742 : decode cL_charts 742 = .ok (.ifCond .ne 68, 3) := by decide +kernel
theorem dL_charts_745 : decode cL_charts 745 = .ok (.aload_n 0, 1) := by decide +kernel
theorem dL_charts_746 : decode cL_charts 746 = .ok (.iconst 0, 1) := by decide +kernel
theorem dL_charts_747 : decode cL_charts 747 = .ok (.invokestatic 106, 3) := by decide +kernel
theorem dL_charts_750 : decode cL_charts 750 = .ok (.bipush (-13), 2) := by decide +kernel
theorem dL_charts_752 : decode cL_charts 752 = .ok (.if_icmp .ne 58, 3) := by decide +kernel
theorem dL_charts_755 : decode cL_charts 755 = .ok (.aload_n 0, 1) := by decide +kernel
theorem dL_charts_756 : decode cL_charts 756 = .ok (.iconst 2, 1) := by decide +kernel
theorem dL_charts_757 : decode cL_charts 757 = .ok (.iconst 0, 1) := by decide +kernel
theorem dL_charts_758 : decode cL_charts 758 = .ok (.invokevirtual 33, 3) := by decide +kernel
theorem dL_charts_761 : decode cL_charts 761 = .ok (.iconst 1, 1) := by decide +kernel
theorem dL_charts_762 : decode cL_charts 762 = .ok (.if_icmp .ne 48, 3) := by decide +kernel
theorem dL_charts_765 : decode cL_charts 765 = .ok (.aload_n 0, 1) := by decide +kernel
theorem dL_charts_766 : decode cL_charts 766 = .ok (.iconst 0, 1) := by decide +kernel
theorem dL_charts_767 : decode cL_charts 767 = .ok (.invokestatic 106, 3) := by decide +kernel
theorem dL_charts_770 : decode cL_charts 770 = .ok (.bipush (-13), 2) := by decide +kernel
theorem dL_charts_772 : decode cL_charts 772 = .ok (.if_icmp .ne 38, 3) := by decide +kernel
theorem dL_charts_775 : decode cL_charts 775 = .ok (.aload_n 0, 1) := by decide +kernel
theorem dL_charts_776 : decode cL_charts 776 = .ok (.sipush 18000, 3) := by decide +kernel
theorem dL_charts_779 : decode cL_charts 779 = .ok (.sipush 7520, 3) := by decide +kernel
theorem dL_charts_782 : decode cL_charts 782 = .ok (.sipush 13068, 3) := by decide +kernel
theorem dL_charts_785 : decode cL_charts 785 = .ok (.invokestatic 125, 3) := by decide +kernel
theorem dL_charts_788 : decode cL_charts 788 = .ok (.ifCond .eq 22, 3) := by decide +kernel
theorem dL_charts_791 : decode cL_charts 791 = .ok (.aload_n 0, 1) := by decide +kernel
theorem dL_charts_792 : decode cL_charts 792 = .ok (.iconst 3, 1) := by decide +kernel
theorem dL_charts_793 : decode cL_charts 793 = .ok (.invokevirtual 44, 3) := by decide +kernel
theorem dL_charts_796 : decode cL_charts 796 = .ok (.ifCond .ne 14, 3) := by decide +kernel
theorem dL_charts_799 : decode cL_charts 799 = .ok (.aload_n 0, 1) := by decide +kernel
theorem dL_charts_800 : decode cL_charts 800 = .ok (.invokestatic 117, 3) := by decide +kernel
theorem dL_charts_803 : decode cL_charts 803 = .ok (.ifCond .eq 7, 3) := by decide +kernel
theorem dL_charts_806 : decode cL_charts 806 = .ok (.iconst 1, 1) := by decide +kernel
theorem dL_charts_807 : decode cL_charts 807 = .ok (.goto 4, 3) := by decide +kernel
theorem dL_charts_810 : decode cL_charts 810 = .ok (.iconst 0, 1) := by decide +kernel
theorem dL_charts_811 : decode cL_charts 811 = .ok (.ireturn, 1) := by decide +kernel
theorem dL_rules_0 : decode cL_rules 0 = .ok (.new 8, 3) := by decide +kernel
theorem dL_rules_3 : decode cL_rules 3 = .ok (.dup, 1) := by decide +kernel
theorem dL_rules_4 : decode cL_rules 4 = .ok (.invokespecial 116, 3) := by decide +kernel
theorem dL_rules_7 : decode cL_rules 7 = .ok (.astore_n 0, 1) := by decide +kernel
theorem dL_rules_8 : decode cL_rules 8 = .ok (.aload_n 0, 1) := by decide +kernel
theorem dL_rules_9 : decode cL_rules 9 = .ok (.iconst 2, 1) := by decide +kernel
theorem dL_rules_10 : decode cL_rules 10 = .ok (.invokestatic 101, 3) := by decide +kernel
theorem dL_rules_13 : decode cL_rules 13 = .ok (.ifCond .ne 45, 3) := by decide +kernel
theorem dL_rules_16 : decode cL_rules 16 = .ok (.aload_n 0, 1) := by decide +kernel
theorem dL_rules_17 : decode cL_rules 17 = .ok (.bipush (-50), 2) := by decide +kernel
theorem dL_rules_19 : decode cL_rules 19 = .ok (.bipush 50, 2) := by decide +kernel
theorem dL_rules_21 : decode cL_rules 21 = .ok (.invokestatic 121, 3) := by decide +kernel
theorem dL_rules_24 : decode cL_rules 24 = .ok (.ifCond .eq 34, 3) := by decide +kernel
theorem dL_rules_27 : decode cL_rules 27 = .ok (.aload_n 0, 1) := by decide +kernel
theorem dL_rules_28 : decode cL_rules 28 = .ok (.bipush 50, 2) := by decide +kernel
theorem dL_rules_30 : decode cL_rules 30 = .ok (.bipush (-50), 2) := by decide +kernel
theorem dL_rules_32 : decode cL_rules 32 = .ok (.invokestatic 121, 3) := by decide +kernel
theorem dL_rules_35 : decode cL_rules 35 = .ok (.ifCond .eq 23, 3) := by decide +kernel
theorem dL_rules_38 : decode cL_rules 38 = .ok (.aload_n 0, 1) := by decide +kernel
theorem dL_rules_39 : decode cL_rules 39 = .ok (.iconst 0, 1) := by decide +kernel
theorem dL_rules_40 : decode cL_rules 40 = .ok (.invokestatic 106, 3) := by decide +kernel
theorem dL_rules_43 : decode cL_rules 43 = .ok (.ifCond .ne 15, 3) := by decide +kernel
theorem dL_rules_46 : decode cL_rules 46 = .ok (.aload_n 0, 1) := by decide +kernel
theorem dL_rules_47 : decode cL_rules 47 = .ok (.iconst 0, 1) := by decide +kernel
theorem dL_rules_48 : decode cL_rules 48 = .ok (.ldc 139, 2) := by decide +kernel
theorem dL_rules_50 : decode cL_rules 50 = .ok (.ldc 140, 2) := by decide +kernel
theorem dL_rules_52 : decode cL_rules 52 = .ok (.invokestatic 125, 3) := by decide +kernel
theorem dL_rules_55 : decode cL_rules 55 = .ok (.ifCond .ne 5, 3) := by decide +kernel
theorem dL_rules_58 : decode cL_rules 58 = .ok (.iconst 0, 1) := by decide +kernel
theorem dL_rules_59 : decode cL_rules 59 = .ok (.ireturn, 1) := by decide +kernel
theorem dL_rules_60 : decode cL_rules 60 = .ok (.iconst 1, 1) := by decide +kernel
theorem dL_rules_61 : decode cL_rules 61 = .ok (.istore_n 1, 1) := by decide +kernel
theorem dL_rules_62 : decode cL_rules 62 = .ok (.iload_n 1, 1) := by decide +kernel
theorem dL_rules_63 : decode cL_rules 63 = .ok (.bipush 10, 2) := by decide +kernel
theorem dL_rules_65 : decode cL_rules 65 = .ok (.if_icmp .ge 20, 3) := by decide +kernel
theorem dL_rules_68 : decode cL_rules 68 = .ok (.aload_n 0, 1) := by decide +kernel
theorem dL_rules_69 : decode cL_rules 69 = .ok (.iload_n 1, 1) := by decide +kernel
theorem dL_rules_70 : decode cL_rules 70 = .ok (.iload_n 1, 1) := by decide +kernel
theorem dL_rules_71 : decode cL_rules 71 = .ok (.invokestatic 121, 3) := by decide +kernel
theorem dL_rules_74 : decode cL_rules 74 = .ok (.ifCond .ne 5, 3) := by decide +kernel
theorem dL_rules_77 : decode cL_rules 77 = .ok (.iconst 0, 1) := by decide +kernel
theorem dL_rules_78 : decode cL_rules 78 = .ok (.ireturn, 1) := by decide +kernel
theorem dL_rules_79 : decode cL_rules 79 = .ok (.iinc 1 1, 3) := by decide +kernel
theorem dL_rules_82 : decode cL_rules 82 = .ok (.goto (-20), 3) := by decide +kernel
theorem dL_rules_85 : decode cL_rules 85 = .ok (.aload_n 0, 1) := by decide +kernel
theorem dL_rules_86 : decode cL_rules 86 = .ok (.iconst 5, 1) := by decide +kernel
theorem dL_rules_87 : decode cL_rules 87 = .ok (.iconst 0, 1) := by decide +kernel
theorem dL_rules_88 : decode cL_rules 88 = .ok (.invokestatic 129, 3) := by decide +kernel
theorem dL_rules_91 : decode cL_rules 91 = .ok (.ifCond .eq 133, 3) := by decide +kernel
theorem dL_rules_94 : decode cL_rules 94 = .ok (.aload_n 0, 1) := by decide +kernel
theorem dL_rules_95 : decode cL_rules 95 = .ok (.bipush 6, 2) := by decide +kernel
theorem dL_rules_97 : decode cL_rules 97 = .ok (.bipush 8, 2) := by decide +kernel
theorem dL_rules_99 : decode cL_rules 99 = .ok (.invokestatic 129, 3) := by decide +kernel
theorem dL_rules_102 : decode cL_rules 102 = .ok (.ifCond .eq 122, 3) := by decide +kernel
theorem dL_rules_105 : decode cL_rules 105 = .ok (.aload_n 0, 1) := by decide +kernel
theorem dL_rules_106 : decode cL_rules 106 = .ok (.bipush 9, 2) := by decide +kernel
theorem dL_rules_108 : decode cL_rules 108 = .ok (.bipush 8, 2) := by decide +kernel
theorem dL_rules_110 : decode cL_rules 110 = .ok (.invokestatic 129, 3) := by decide +kernel
theorem dL_rules_113 : decode cL_rules 113 = .ok (.ifCond .eq 111, 3) := by decide +kernel
theorem dL_rules_116 : decode cL_rules 116 = .ok (.aload_n 0, 1) := by decide +kernel
theorem dL_rules_117 : decode cL_rules 117 = .ok (.bipush 10, 2) := by decide +kernel
theorem dL_rules_119 : decode cL_rules 119 = .ok (.bipush 12, 2) := by decide +kernel
theorem dL_rules_121 : decode cL_rules 121 = .ok (.invokestatic 129, 3) := by decide +kernel
theorem dL_rules_124 : decode cL_rules 124 = .ok (.ifCond .eq 100, 3) := by decide +kernel
theorem dL_rules_127 : decode cL_rules 127 = .ok (.aload_n 0, 1) := by decide +kernel
theorem dL_rules_128 : decode cL_rules 128 = .ok (.bipush 6, 2) := by decide +kernel
theorem dL_rules_130 : decode cL_rules 130 = .ok (.iconst 3, 1) := by decide +kernel
theorem dL_rules_131 : decode cL_rules 131 = .ok (.invokevirtual 65, 3) := by decide +kernel
theorem dL_rules_134 : decode cL_rules 134 = .ok (.iconst 1, 1) := by decide +kernel
theorem dL_rules_135 : decode cL_rules 135 = .ok (.if_icmp .ne 89, 3) := by decide +kernel
theorem dL_rules_138 : decode cL_rules 138 = .ok (.aload_n 0, 1) := by decide +kernel
theorem dL_rules_139 : decode cL_rules 139 = .ok (.bipush 10, 2) := by decide +kernel
theorem dL_rules_141 : decode cL_rules 141 = .ok (.iconst 2, 1) := by decide +kernel
theorem dL_rules_142 : decode cL_rules 142 = .ok (.invokevirtual 65, 3) := by decide +kernel
theorem dL_rules_145 : decode cL_rules 145 = .ok (.iconst 2, 1) := by decide +kernel
theorem dL_rules_146 : decode cL_rules 146 = .ok (.if_icmp .ne 78, 3) := by decide +kernel
theorem dL_rules_149 : decode cL_rules 149 = .ok (.aload_n 0, 1) := by decide +kernel
theorem dL_rules_150 : decode cL_rules 150 = .ok (.bipush 10, 2) := by decide +kernel
theorem dL_rules_152 : decode cL_rules 152 = .ok (.iconst 3, 1) := by decide +kernel
theorem dL_rules_153 : decode cL_rules 153 = .ok (.invokevirtual 65, 3) := by decide +kernel
theorem dL_rules_156 : decode cL_rules 156 = .ok (.iconst 5, 1) := by decide +kernel
theorem dL_rules_157 : decode cL_rules 157 = .ok (.if_icmp .ne 67, 3) := by decide +kernel
theorem dL_rules_160 : decode cL_rules 160 = .ok (.aload_n 0, 1) := by decide +kernel
theorem dL_rules_161 : decode cL_rules 161 = .ok (.bipush 6, 2) := by decide +kernel
theorem dL_rules_163 : decode cL_rules 163 = .ok (.iconst 3, 1) := by decide +kernel
theorem dL_rules_164 : decode cL_rules 164 = .ok (.invokevirtual 33, 3) := by decide +kernel
theorem dL_rules_167 : decode cL_rules 167 = .ok (.ifCond .ne 57, 3) := by decide +kernel
theorem dL_rules_170 : decode cL_rules 170 = .ok (.aload_n 0, 1) := by decide +kernel
theorem dL_rules_171 : decode cL_rules 171 = .ok (.bipush 6, 2) := by decide +kernel
theorem dL_rules_173 : decode cL_rules 173 = .ok (.iconst 0, 1) := by decide +kernel
theorem dL_rules_174 : decode cL_rules 174 = .ok (.invokestatic 129, 3) := by decide +kernel
theorem dL_rules_177 : decode cL_rules 177 = .ok (.ifCond .eq 47, 3) := by decide +kernel
theorem dL_rules_180 : decode cL_rules 180 = .ok (.aload_n 0, 1) := by decide +kernel
theorem dL_rules_181 : decode cL_rules 181 = .ok (.bipush 10, 2) := by decide +kernel
theorem dL_rules_183 : decode cL_rules 183 = .ok (.bipush 8, 2) := by decide +kernel
theorem dL_rules_185 : decode cL_rules 185 = .ok (.invokestatic 129, 3) := by decide +kernel
theorem dL_rules_188 : decode cL_rules 188 = .ok (.ifCond .eq 36, 3) := by decide +kernel
theorem dL_rules_191 : decode cL_rules 191 = .ok (.aload_n 0, 1) := by decide +kernel
theorem dL_rules_192 : decode cL_rules 192 = .ok (.bipush 10, 2) := by decide +kernel
theorem dL_rules_194 : decode cL_rules 194 = .ok (.iconst 3, 1) := by decide +kernel
theorem dL_rules_195 : decode cL_rules 195 = .ok (.invokevirtual 65, 3) := by decide +kernel
theorem dL_rules_198 : decode cL_rules 198 = .ok (.iconst 4, 1) := by decide +kernel
theorem dL_rules_199 : decode cL_rules 199 = .ok (.if_icmp .ne 25, 3) := by decide +kernel
theorem dL_rules_202 : decode cL_rules 202 = .ok (.aload_n 0, 1) := by decide +kernel
theorem dL_rules_203 : decode cL_rules 203 = .ok (.bipush 6, 2) := by decide +kernel
theorem dL_rules_205 : decode cL_rules 205 = .ok (.iconst 0, 1) := by decide +kernel
theorem dL_rules_206 : decode cL_rules 206 = .ok (.invokevirtual 33, 3) := by decide +kernel
theorem dL_rules_209 : decode cL_rules 209 = .ok (.iconst 3, 1) := by decide +kernel
theorem dL_rules_210 : decode cL_rules 210 = .ok (.if_icmp .ne 14, 3) := by decide +kernel
theorem dL_rules_213 : decode cL_rules 213 = .ok (.aload_n 0, 1) := by decide +kernel
theorem dL_rules_214 : decode cL_rules 214 = .ok (.bipush 10, 2) := by decide +kernel
theorem dL_rules_216 : decode cL_rules 216 = .ok (.bipush 12, 2) := by decide +kernel
theorem dL_rules_218 : decode cL_rules 218 = .ok (.invokestatic 129, 3) := by decide +kernel
theorem dL_rules_221 : decode cL_rules 221 = .ok (.ifCond .ne 5, 3) := by decide +kernel
theorem dL_rules_224 : decode cL_rules 224 = .ok (.iconst 0, 1) := by decide +kernel
theorem dL_rules_225 : decode cL_rules 225 = .ok (.ireturn, 1) := by decide +kernel
theorem dL_rules_226 : decode cL_rules 226 = .ok (.bipush 11, 2) := by decide +kernel
theorem dL_rules_228 : decode cL_rules 228 = .ok (.istore_n 1, 1) := by decide +kernel
theorem dL_rules_229 : decode cL_rules 229 = .ok (.iload_n 1, 1) := by decide +kernel
theorem dL_rules_230 : decode cL_rules 230 = .ok (.bipush 23, 2) := by decide +kernel
theorem dL_rules_232 : decode cL_rules 232 = .ok (.if_icmp .ge 57, 3) := by decide +kernel
theorem dL_rules_235 : decode cL_rules 235 = .ok (.iload_n 1, 1) := by decide +kernel
theorem dL_rules_236 : decode cL_rules 236 = .ok (.bipush 15, 2) := by decide +kernel
theorem dL_rules_238 : decode cL_rules 238 = .ok (.if_icmp .ge 19, 3) := by decide +kernel
theorem dL_rules_241 : decode cL_rules 241 = .ok (.iload_n 1, 1) := by decide +kernel
theorem dL_rules_242 : decode cL_rules 242 = .ok (.iconst 2, 1) := by decide +kernel
theorem dL_rules_243 : decode cL_rules 243 = .ok (.irem, 1) := by decide +kernel
theorem dL_rules_244 : decode cL_rules 244 = .ok (.iconst 1, 1) := by decide +kernel
theorem dL_rules_245 : decode cL_rules 245 = .ok (.if_icmp .ne 7, 3) := by decide +kernel
theorem dL_rules_248 : decode cL_rules 248 = .ok (.iconst 5, 1) := by decide +kernel
theorem dL_rules_249 : decode cL_rules 249 = .ok (.goto 22, 3) := by decide +kernel
theorem dL_rules_252 : decode cL_rules 252 = .ok (.bipush 9, 2) := by decide +kernel
theorem dL_rules_254 : decode cL_rules 254 = .ok (.goto 17, 3) := by decide +kernel
theorem dL_rules_257 : decode cL_rules 257 = .ok (.iload_n 1, 1) := by decide +kernel
theorem dL_rules_258 : decode cL_rules 258 = .ok (.iconst 2, 1) := by decide +kernel
theorem dL_rules_259 : decode cL_rules 259 = .ok (.irem, 1) := by decide +kernel
theorem dL_rules_260 : decode cL_rules 260 = .ok (.iconst 1, 1) := by decide +kernel
theorem dL_rules_261 : decode cL_rules 261 = .ok (.if_icmp .ne 8, 3) := by decide +kernel
theorem dL_rules_264 : decode cL_rules 264 = .ok (.bipush (-100), 2) := by decide +kernel
theorem dL_rules_266 : decode cL_rules 266 = .ok (.goto 5, 3) := by decide +kernel
theorem dL_rules_269 : decode cL_rules 269 = .ok (.bipush 100, 2) := by decide +kernel
theorem dL_rules_271 : decode cL_rules 271 = .ok (.istore_n 2, 1) := by decide +kernel
theorem dL_rules_272 : decode cL_rules 272 = .ok (.aload_n 0, 1) := by decide +kernel
theorem dL_rules_273 : decode cL_rules 273 = .ok (.iload_n 2, 1) := by decide +kernel
theorem dL_rules_274 : decode cL_rules 274 = .ok (.iload_n 2, 1) := by decide +kernel
theorem dL_rules_275 : decode cL_rules 275 = .ok (.invokestatic 121, 3) := by decide +kernel
theorem dL_rules_278 : decode cL_rules 278 = .ok (.ifCond .ne 5, 3) := by decide +kernel
theorem dL_rules_281 : decode cL_rules 281 = .ok (.iconst 0, 1) := by decide +kernel
theorem dL_rules_282 : decode cL_rules 282 = .ok (.ireturn, 1) := by decide +kernel
theorem dL_rules_283 : decode cL_rules 283 = .ok (.iinc 1 1, 3) := by decide +kernel
theorem dL_rules_286 : decode cL_rules 286 = .ok (.goto (-57), 3) := by decide +kernel
theorem dL_rules_289 : decode cL_rules 289 = .ok (.aload_n 0, 1) := by decide +kernel
theorem dL_rules_290 : decode cL_rules 290 = .ok (.bipush 13, 2) := by decide +kernel
theorem dL_rules_292 : decode cL_rules 292 = .ok (.iconst 4, 1) := by decide +kernel
theorem dL_rules_293 : decode cL_rules 293 = .ok (.invokestatic 129, 3) := by decide +kernel
theorem dL_rules_296 : decode cL_rules 296 = .ok (.ifCond .eq 211, 3) := by decide +kernel
theorem dL_rules_299 : decode cL_rules 299 = .ok (.aload_n 0, 1) := by decide +kernel
theorem dL_rules_300 : decode cL_rules 300 = .ok (.bipush 14, 2) := by decide +kernel
theorem dL_rules_302 : decode cL_rules 302 = .ok (.sipush 132, 3) := by decide +kernel
theorem dL_rules_305 : decode cL_rules 305 = .ok (.invokestatic 129, 3) := by decide +kernel
theorem dL_rules_308 : decode cL_rules 308 = .ok (.ifCond .eq 199, 3) := by decide +kernel
theorem dL_rules_311 : decode cL_rules 311 = .ok (.aload_n 0, 1) := by decide +kernel
theorem dL_rules_312 : decode cL_rules 312 = .ok (.bipush 14, 2) := by decide +kernel
theorem dL_rules_314 : decode cL_rules 314 = .ok (.bipush 7, 2) := by decide +kernel
theorem dL_rules_316 : decode cL_rules 316 = .ok (.invokevirtual 65, 3) := by decide +kernel
theorem dL_rules_319 : decode cL_rules 319 = .ok (.ifCond .ne 188, 3) := by decide +kernel
theorem dL_rules_322 : decode cL_rules 322 = .ok (.aload_n 0, 1) := by decide +kernel
theorem dL_rules_323 : decode cL_rules 323 = .ok (.bipush 15, 2) := by decide +kernel
theorem dL_rules_325 : decode cL_rules 325 = .ok (.iconst 0, 1) := by decide +kernel
theorem dL_rules_326 : decode cL_rules 326 = .ok (.invokestatic 129, 3) := by decide +kernel
theorem dL_rules_329 : decode cL_rules 329 = .ok (.ifCond .eq 178, 3) := by decide +kernel
theorem dL_rules_332 : decode cL_rules 332 = .ok (.aload_n 0, 1) := by decide +kernel
theorem dL_rules_333 : decode cL_rules 333 = .ok (.bipush 21, 2) := by decide +kernel
theorem dL_rules_335 : decode cL_rules 335 = .ok (.iconst 0, 1) := by decide +kernel
theorem dL_rules_336 : decode cL_rules 336 = .ok (.invokestatic 129, 3) := by decide +kernel
theorem dL_rules_339 : decode cL_rules 339 = .ok (.ifCond .eq 168, 3) := by decide +kernel
theorem dL_rules_342 : decode cL_rules 342 = .ok (.aload_n 0, 1) := by decide +kernel
theorem dL_rules_343 : decode cL_rules 343 = .ok (.bipush 22, 2) := by decide +kernel
theorem dL_rules_345 : decode cL_rules 345 = .ok (.sipush 272, 3) := by decide +kernel
theorem dL_rules_348 : decode cL_rules 348 = .ok (.invokestatic 129, 3) := by decide +kernel
theorem dL_rules_351 : decode cL_rules 351 = .ok (.ifCond .eq 156, 3) := by decide +kernel
theorem dL_rules_354 : decode cL_rules 354 = .ok (.aload_n 0, 1) := by decide +kernel
theorem dL_rules_355 : decode cL_rules 355 = .ok (.bipush 22, 2) := by decide +kernel
theorem dL_rules_357 : decode cL_rules 357 = .ok (.bipush 8, 2) := by decide +kernel
theorem dL_rules_359 : decode cL_rules 359 = .ok (.invokevirtual 65, 3) := by decide +kernel
theorem dL_rules_362 : decode cL_rules 362 = .ok (.bipush 15, 2) := by decide +kernel
theorem dL_rules_364 : decode cL_rules 364 = .ok (.if_icmp .ne 143, 3) := by decide +kernel
theorem dL_rules_367 : decode cL_rules 367 = .ok (.aload_n 0, 1) := by decide +kernel
theorem dL_rules_368 : decode cL_rules 368 = .ok (.bipush 22, 2) := by decide +kernel
theorem dL_rules_370 : decode cL_rules 370 = .ok (.iconst 4, 1) := by decide +kernel
theorem dL_rules_371 : decode cL_rules 371 = .ok (.invokevirtual 65, 3) := by decide +kernel
theorem dL_rules_374 : decode cL_rules 374 = .ok (.bipush 9, 2) := by decide +kernel
theorem dL_rules_376 : decode cL_rules 376 = .ok (.if_icmp .ne 131, 3) := by decide +kernel
theorem dL_rules_379 : decode cL_rules 379 = .ok (.aload_n 0, 1) := by decide +kernel
theorem dL_rules_380 : decode cL_rules 380 = .ok (.bipush 100, 2) := by decide +kernel
theorem dL_rules_382 : decode cL_rules 382 = .ok (.bipush 100, 2) := by decide +kernel
theorem dL_rules_384 : decode cL_rules 384 = .ok (.invokestatic 121, 3) := by decide +kernel
theorem dL_rules_387 : decode cL_rules 387 = .ok (.ifCond .eq 120, 3) := by decide +kernel
theorem dL_rules_390 : decode cL_rules 390 = .ok (.aload_n 0, 1) := by decide +kernel
theorem dL_rules_391 : decode cL_rules 391 = .ok (.bipush 100, 2) := by decide +kernel
theorem dL_rules_393 : decode cL_rules 393 = .ok (.bipush 100, 2) := by decide +kernel
theorem dL_rules_395 : decode cL_rules 395 = .ok (.invokestatic 121, 3) := by decide +kernel
theorem dL_rules_398 : decode cL_rules 398 = .ok (.ifCond .eq 109, 3) := by decide +kernel
theorem dL_rules_401 : decode cL_rules 401 = .ok (.aload_n 0, 1) := by decide +kernel
theorem dL_rules_402 : decode cL_rules 402 = .ok (.sipush 130, 3) := by decide +kernel
theorem dL_rules_405 : decode cL_rules 405 = .ok (.sipush 130, 3) := by decide +kernel
theorem dL_rules_408 : decode cL_rules 408 = .ok (.invokestatic 121, 3) := by decide +kernel
theorem dL_rules_411 : decode cL_rules 411 = .ok (.ifCond .eq 96, 3) := by decide +kernel
theorem dL_rules_414 : decode cL_rules 414 = .ok (.aload_n 0, 1) := by decide +kernel
theorem dL_rules_415 : decode cL_rules 415 = .ok (.sipush 130, 3) := by decide +kernel
theorem dL_rules_418 : decode cL_rules 418 = .ok (.sipush 130, 3) := by decide +kernel
theorem dL_rules_421 : decode cL_rules 421 = .ok (.invokestatic 121, 3) := by decide +kernel
theorem dL_rules_424 : decode cL_rules 424 = .ok (.ifCond .eq 83, 3) := by decide +kernel
theorem dL_rules_427 : decode cL_rules 427 = .ok (.aload_n 0, 1) := by decide +kernel
theorem dL_rules_428 : decode cL_rules 428 = .ok (.bipush 23, 2) := by decide +kernel
theorem dL_rules_430 : decode cL_rules 430 = .ok (.sipush 256, 3) := by decide +kernel
theorem dL_rules_433 : decode cL_rules 433 = .ok (.invokestatic 129, 3) := by decide +kernel
theorem dL_rules_436 : decode cL_rules 436 = .ok (.ifCond .eq 71, 3) := by decide +kernel
theorem dL_rules_439 : decode cL_rules 439 = .ok (.aload_n 0, 1) := by decide +kernel
theorem dL_rules_440 : decode cL_rules 440 = .ok (.bipush 24, 2) := by decide +kernel
theorem dL_rules_442 : decode cL_rules 442 = .ok (.sipush 320, 3) := by decide +kernel
theorem dL_rules_445 : decode cL_rules 445 = .ok (.invokestatic 129, 3) := by decide +kernel
theorem dL_rules_448 : decode cL_rules 448 = .ok (.ifCond .eq 59, 3) := by decide +kernel
theorem dL_rules_451 : decode cL_rules 451 = .ok (.aload_n 0, 1) := by decide +kernel
theorem dL_rules_452 : decode cL_rules 452 = .ok (.bipush 24, 2) := by decide +kernel
theorem dL_rules_454 : decode cL_rules 454 = .ok (.bipush 6, 2) := by decide +kernel
theorem dL_rules_456 : decode cL_rules 456 = .ok (.invokevirtual 65, 3) := by decide +kernel
theorem dL_rules_459 : decode cL_rules 459 = .ok (.bipush 20, 2) := by decide +kernel
theorem dL_rules_461 : decode cL_rules 461 = .ok (.if_icmp .ne 46, 3) := by decide +kernel
theorem dL_rules_464 : decode cL_rules 464 = .ok (.aload_n 0, 1) := by decide +kernel
theorem dL_rules_465 : decode cL_rules 465 = .ok (.bipush 25, 2) := by decide +kernel
theorem dL_rules_467 : decode cL_rules 467 = .ok (.sipush 320, 3) := by decide +kernel
theorem dL_rules_470 : decode cL_rules 470 = .ok (.invokestatic 129, 3) := by decide +kernel
theorem dL_rules_473 : decode cL_rules 473 = .ok (.ifCond .eq 34, 3) := by decide +kernel
theorem dL_rules_476 : decode cL_rules 476 = .ok (.aload_n 0, 1) := by decide +kernel
theorem dL_rules_477 : decode cL_rules 477 = .ok (.bipush 26, 2) := by decide +kernel
theorem dL_rules_479 : decode cL_rules 479 = .ok (.sipush 352, 3) := by decide +kernel
theorem dL_rules_482 : decode cL_rules 482 = .ok (.invokestatic 129, 3) := by decide +kernel
theorem dL_rules_485 : decode cL_rules 485 = .ok (.ifCond .eq 22, 3) := by decide +kernel
theorem dL_rules_488 : decode cL_rules 488 = .ok (.aload_n 0, 1) := by decide +kernel
theorem dL_rules_489 : decode cL_rules 489 = .ok (.bipush 26, 2) := by decide +kernel
theorem dL_rules_491 : decode cL_rules 491 = .ok (.iconst 5, 1) := by decide +kernel
theorem dL_rules_492 : decode cL_rules 492 = .ok (.invokevirtual 65, 3) := by decide +kernel
theorem dL_rules_495 : decode cL_rules 495 = .ok (.bipush 24, 2) := by decide +kernel
theorem dL_rules_497 : decode cL_rules 497 = .ok (.if_icmp .ne 10, 3) := by decide +kernel
theorem dL_rules_500 : decode cL_rules 500 = .ok (.aload_n 0, 1) := by decide +kernel
theorem dL_rules_501 : decode cL_rules 501 = .ok (.invokestatic 117, 3) := by decide +kernel
theorem dL_rules_504 : decode cL_rules 504 = .ok (.ifCond .ne 5, 3) := by decide +kernel
theorem dL_rules_507 : decode cL_rules 507 = .ok (.iconst 0, 1) := by decide +kernel
theorem dL_rules_508 : decode cL_rules 508 = .ok (.ireturn, 1) := by decide +kernel
theorem dL_rules_509 : decode cL_rules 509 = .ok (.aload_n 0, 1) := by decide +kernel
theorem dL_rules_510 : decode cL_rules 510 = .ok (.iconst 1, 1) := by decide +kernel
theorem dL_rules_511 : decode cL_rules 511 = .ok (.invokevirtual 25, 3) := by decide +kernel
theorem dL_rules_514 : decode cL_rules 514 = .ok (.ifCond .ne 166, 3) := by decide +kernel
theorem dL_rules_517 : decode cL_rules 517 = .ok (.aload_n 0, 1) := by decide +kernel
theorem dL_rules_518 : decode cL_rules 518 = .ok (.iconst 1, 1) := by decide +kernel
theorem dL_rules_519 : decode cL_rules 519 = .ok (.iconst 0, 1) := by decide +kernel
theorem dL_rules_520 : decode cL_rules 520 = .ok (.iconst 0, 1) := by decide +kernel
theorem dL_rules_521 : decode cL_rules 521 = .ok (.iconst 0, 1) := by decide +kernel
theorem dL_rules_522 : decode cL_rules 522 = .ok (.invokestatic 112, 3) := by decide +kernel
theorem dL_rules_525 : decode cL_rules 525 = .ok (.ldc2_w 89, 3) := by decide +kernel
theorem dL_rules_528 : decode cL_rules 528 = .ok (.lcmp, 1) := by decide +kernel
theorem dL_rules_529 : decode cL_rules 529 = .ok (.ifCond .ne 151, 3) := by decide +kernel
theorem dL_rules_532 : decode cL_rules 532 = .ok (.aload_n 0, 1) := by decide +kernel
theorem dL_rules_533 : decode cL_rules 533 = .ok (.iconst 2, 1) := by decide +kernel
theorem dL_rules_534 : decode cL_rules 534 = .ok (.invokevirtual 25, 3) := by decide +kernel
theorem dL_rules_537 : decode cL_rules 537 = .ok (.ifCond .eq 143, 3) := by decide +kernel
theorem dL_rules_540 : decode cL_rules 540 = .ok (.aload_n 0, 1) := by decide +kernel
theorem dL_rules_541 : decode cL_rules 541 = .ok (.bipush 27, 2) := by decide +kernel
theorem dL_rules_543 : decode cL_rules 543 = .ok (.invokevirtual 37, 3) := by decide +kernel
theorem dL_rules_546 : decode cL_rules 546 = .ok (.sipush 1500, 3) := by decide +kernel
theorem dL_rules_549 : decode cL_rules 549 = .ok (.if_icmp .ne 131, 3) := by decide +kernel
theorem dL_rules_552 : decode cL_rules 552 = .ok (.aload_n 0, 1) := by decide +kernel
theorem dL_rules_553 : decode cL_rules 553 = .ok (.invokevirtual 29, 3) := by decide +kernel
theorem dL_rules_556 : decode cL_rules 556 = .ok (.iconst 1, 1) := by decide +kernel
theorem dL_rules_557 : decode cL_rules 557 = .ok (.if_icmp .ne 123, 3) := by decide +kernel
theorem dL_rules_560 : decode cL_rules 560 = .ok (.aload_n 0, 1) := by decide +kernel
theorem dL_rules_561 : decode cL_rules 561 = .ok (.iconst 1, 1) := by decide +kernel
theorem dL_rules_562 : decode cL_rules 562 = .ok (.iconst 0, 1) := by decide +kernel
theorem dL_rules_563 : decode cL_rules 563 = .ok (.iconst 0, 1) := by decide +kernel
theorem dL_rules_564 : decode cL_rules 564 = .ok (.iconst 0, 1) := by decide +kernel
theorem dL_rules_565 : decode cL_rules 565 = .ok (.invokestatic 112, 3) := by decide +kernel
theorem dL_rules_568 : decode cL_rules 568 = .ok (.ldc2_w 89, 3) := by decide +kernel
theorem dL_rules_571 : decode cL_rules 571 = .ok (.lcmp, 1) := by decide +kernel
theorem dL_rules_572 : decode cL_rules 572 = .ok (.ifCond .ne 108, 3) := by decide +kernel
theorem dL_rules_575 : decode cL_rules 575 = .ok (.aload_n 0, 1) := by decide +kernel
theorem dL_rules_576 : decode cL_rules 576 = .ok (.iconst 1, 1) := by decide +kernel
theorem dL_rules_577 : decode cL_rules 577 = .ok (.invokevirtual 47, 3) := by decide +kernel
theorem dL_rules_580 : decode cL_rules 580 = .ok (.ifCond .ne 100, 3) := by decide +kernel
theorem dL_rules_583 : decode cL_rules 583 = .ok (.aload_n 0, 1) := by decide +kernel
theorem dL_rules_584 : decode cL_rules 584 = .ok (.bipush 7, 2) := by decide +kernel
theorem dL_rules_586 : decode cL_rules 586 = .ok (.iconst 1, 1) := by decide +kernel
theorem dL_rules_587 : decode cL_rules 587 = .ok (.iconst 0, 1) := by decide +kernel
theorem dL_rules_588 : decode cL_rules 588 = .ok (.iconst 0, 1) := by decide +kernel
theorem dL_rules_589 : decode cL_rules 589 = .ok (.invokestatic 112, 3) := by decide +kernel
theorem dL_rules_592 : decode cL_rules 592 = .ok (.ldc2_w 89, 3) := by decide +kernel
theorem dL_rules_595 : decode cL_rules 595 = .ok (.lcmp, 1) := by decide +kernel
theorem dL_rules_596 : decode cL_rules 596 = .ok (.ifCond .ne 84, 3) := by decide +kernel
theorem dL_rules_599 : decode cL_rules 599 = .ok (.aload_n 0, 1) := by decide +kernel
theorem dL_rules_600 : decode cL_rules 600 = .ok (.iconst (-1), 1) := by decide +kernel
theorem dL_rules_601 : decode cL_rules 601 = .ok (.bipush (-2), 2) := by decide +kernel
theorem dL_rules_603 : decode cL_rules 603 = .ok (.invokestatic 121, 3) := by decide +kernel
theorem dL_rules_606 : decode cL_rules 606 = .ok (.ifCond .eq 74, 3) := by decide +kernel
theorem dL_rules_609 : decode cL_rules 609 = .ok (.aload_n 0, 1) := by decide +kernel
theorem dL_rules_610 : decode cL_rules 610 = .ok (.bipush 28, 2) := by decide +kernel
theorem dL_rules_612 : decode cL_rules 612 = .ok (.invokevirtual 37, 3) := by decide +kernel
theorem dL_rules_615 : decode cL_rules 615 = .ok (.sipush (-1500), 3) := by decide +kernel
theorem dL_rules_618 : decode cL_rules 618 = .ok (.if_icmp .ne 62, 3) := by decide +kernel
theorem dL_rules_621 : decode cL_rules 621 = .ok (.aload_n 0, 1) := by decide +kernel
theorem dL_rules_622 : decode cL_rules 622 = .ok (.bipush 28, 2) := by decide +kernel
theorem dL_rules_624 : decode cL_rules 624 = .ok (.invokevirtual 44, 3) := by decide +kernel
theorem dL_rules_627 : decode cL_rules 627 = .ok (.iconst 1, 1) := by decide +kernel
theorem dL_rules_628 : decode cL_rules 628 = .ok (.if_icmp .ne 52, 3) := by decide +kernel
theorem dL_rules_631 : decode cL_rules 631 = .ok (.aload_n 0, 1) := by decide +kernel
theorem dL_rules_632 : decode cL_rules 632 = .ok (.bipush 27, 2) := by decide +kernel
theorem dL_rules_634 : decode cL_rules 634 = .ok (.invokevirtual 44, 3) := by decide +kernel
theorem dL_rules_637 : decode cL_rules 637 = .ok (.ifCond .ne 43, 3) := by decide +kernel
theorem dL_rules_640 : decode cL_rules 640 = .ok (.aload_n 0, 1) := by decide +kernel
theorem dL_rules_641 : decode cL_rules 641 = .ok (.iconst 1, 1) := by decide +kernel
theorem dL_rules_642 : decode cL_rules 642 = .ok (.invokevirtual 50, 3) := by decide +kernel
theorem dL_rules_645 : decode cL_rules 645 = .ok (.sipush (-1500), 3) := by decide +kernel
theorem dL_rules_648 : decode cL_rules 648 = .ok (.if_icmp .ne 32, 3) := by decide +kernel
theorem dL_rules_651 : decode cL_rules 651 = .ok (.aload_n 0, 1) := by decide +kernel
theorem dL_rules_652 : decode cL_rules 652 = .ok (.iconst 1, 1) := by decide +kernel
theorem dL_rules_653 : decode cL_rules 653 = .ok (.invokevirtual 53, 3) := by decide +kernel
theorem dL_rules_656 : decode cL_rules 656 = .ok (.sipush 1880, 3) := by decide +kernel
theorem dL_rules_659 : decode cL_rules 659 = .ok (.if_icmp .ne 21, 3) := by decide +kernel
theorem dL_rules_662 : decode cL_rules 662 = .ok (.aload_n 0, 1) := by decide +kernel
theorem dL_rules_663 : decode cL_rules 663 = .ok (.iconst 0, 1) := by decide +kernel
theorem dL_rules_664 : decode cL_rules 664 = .ok (.invokevirtual 50, 3) := by decide +kernel
theorem dL_rules_667 : decode cL_rules 667 = .ok (.ifCond .ne 13, 3) := by decide +kernel
theorem dL_rules_670 : decode cL_rules 670 = .ok (.aload_n 0, 1) := by decide +kernel
theorem dL_rules_671 : decode cL_rules 671 = .ok (.bipush 28, 2) := by decide +kernel
theorem dL_rules_673 : decode cL_rules 673 = .ok (.iconst 0, 1) := by decide +kernel
theorem dL_rules_674 : decode cL_rules 674 = .ok (.invokestatic 129, 3) := by decide +kernel
theorem dL_rules_677 : decode cL_rules 677 = .ok (.ifCond .ne 5, 3) := by decide +kernel
theorem dL_rules_680 : decode cL_rules 680 = .ok (.iconst 0, 1) := by decide +kernel
theorem dL_rules_681 : decode cL_rules 681 = .ok (.ireturn, 1) := by decide +kernel
theorem dL_rules_682 : decode cL_rules 682 = .ok (.iconst 2, 1) := by decide +kernel
theorem dL_rules_683 : decode cL_rules 683 = .ok (.istore_n 1, 1) := by decide +kernel
theorem dL_rules_684 : decode cL_rules 684 = .ok (.iload_n 1, 1) := by decide +kernel
theorem dL_rules_685 : decode cL_rules 685 = .ok (.bipush 10, 2) := by decide +kernel
theorem dL_rules_687 : decode cL_rules 687 = .ok (.if_icmp .ge 28, 3) := by decide +kernel
theorem dL_rules_690 : decode cL_rules 690 = .ok (.aload_n 0, 1) := by decide +kernel
theorem dL_rules_691 : decode cL_rules 691 = .ok (.invokevirtual 29, 3) := by decide +kernel
theorem dL_rules_694 : decode cL_rules 694 = .ok (.iload_n 1, 1) := by decide +kernel
theorem dL_rules_695 : decode cL_rules 695 = .ok (.if_icmp .ne 12, 3) := by decide +kernel
theorem dL_rules_698 : decode cL_rules 698 = .ok (.aload_n 0, 1) := by decide +kernel
theorem dL_rules_699 : decode cL_rules 699 = .ok (.iload_n 1, 1) := by decide +kernel
theorem dL_rules_700 : decode cL_rules 700 = .ok (.iload_n 1, 1) := by decide +kernel
theorem dL_rules_701 : decode cL_rules 701 = .ok (.invokestatic 121, 3) := by decide +kernel
theorem dL_rules_704 : decode cL_rules 704 = .ok (.ifCond .ne 5, 3) := by decide +kernel
theorem dL_rules_707 : decode cL_rules 707 = .ok (.iconst 0, 1) := by decide +kernel
theorem dL_rules_708 : decode cL_rules 708 = .ok (.ireturn, 1) := by decide +kernel
theorem dL_rules_709 : decode cL_rules 709 = .ok (.iinc 1 1, 3) := by decide +kernel
theorem dL_rules_712 : decode cL_rules 712 = .ok (.goto (-28), 3) := by decide +kernel
theorem dL_rules_715 : decode cL_rules 715 = .ok (.aload_n 0, 1) := by decide +kernel
theorem dL_rules_716 : decode cL_rules 716 = .ok (.iconst 1, 1) := by decide +kernel
theorem dL_rules_717 : decode cL_rules 717 = .ok (.iconst 0, 1) := by decide +kernel
theorem dL_rules_718 : decode cL_rules 718 = .ok (.iconst 0, 1) := by decide +kernel
theorem dL_rules_719 : decode cL_rules 719 = .ok (.iconst 0, 1) := by decide +kernel
theorem dL_rules_720 : decode cL_rules 720 = .ok (.invokestatic 112, 3) := by decide +kernel
theorem dL_rules_723 : decode cL_rules 723 = .ok (.ldc2_w 89, 3) := by decide +kernel
theorem dL_rules_726 : decode cL_rules 726 = .ok (.lcmp, 1) := by decide +kernel
theorem dL_rules_727 : decode cL_rules 727 = .ok (.ifCond .ne 21, 3) := by decide +kernel
theorem dL_rules_730 : decode cL_rules 730 = .ok (.aload_n 0, 1) := by decide +kernel
theorem dL_rules_731 : decode cL_rules 731 = .ok (.invokevirtual 94, 3) := by decide +kernel
theorem dL_rules_734 : decode cL_rules 734 = .ok (.bipush 10, 2) := by decide +kernel
theorem dL_rules_736 : decode cL_rules 736 = .ok (.if_icmp .ne 12, 3) := by decide +kernel
theorem dL_rules_739 : decode cL_rules 739 = .ok (.aload_n 0, 1) := by decide +kernel
theorem dL_rules_740 : decode cL_rules 740 = .ok (.invokevirtual 91, 3) := by decide +kernel
theorem dL_rules_743 : decode cL_rules 743 = .ok (.bipush 37, 2) := by decide +kernel
theorem dL_rules_745 : decode cL_rules 745 = .ok (.if_icmp .eq 5, 3) := by decide +kernel
theorem dL_rules_748 : decode cL_rules 748 = .ok (.iconst 0, 1) := by decide +kernel
theorem dL_rules_749 : decode cL_rules 749 = .ok (.ireturn, 1) := by decide +kernel
theorem dL_rules_750 : decode cL_rules 750 = .ok (.bipush 37, 2) := by decide +kernel
theorem dL_rules_752 : decode cL_rules 752 = .ok (.istore_n 1, 1) := by decide +kernel
theorem dL_rules_753 : decode cL_rules 753 = .ok (.iload_n 1, 1) := by decide +kernel
theorem dL_rules_754 : decode cL_rules 754 = .ok (.bipush 60, 2) := by decide +kernel
theorem dL_rules_756 : decode cL_rules 756 = .ok (.if_icmp .ge 20, 3) := by decide +kernel
theorem dL_rules_759 : decode cL_rules 759 = .ok (.aload_n 0, 1) := by decide +kernel
theorem dL_rules_760 : decode cL_rules 760 = .ok (.iconst 0, 1) := by decide +kernel
theorem dL_rules_761 : decode cL_rules 761 = .ok (.iconst 0, 1) := by decide +kernel
theorem dL_rules_762 : decode cL_rules 762 = .ok (.invokestatic 121, 3) := by decide +kernel
theorem dL_rules_765 : decode cL_rules 765 = .ok (.ifCond .ne 5, 3) := by decide +kernel
theorem dL_rules_768 : decode cL_rules 768 = .ok (.iconst 0, 1) := by decide +kernel
theorem dL_rules_769 : decode cL_rules 769 = .ok (.ireturn, 1) := by decide +kernel
theorem dL_rules_770 : decode cL_rules 770 = .ok (.iinc 1 1, 3) := by decide +kernel
theorem dL_rules_773 : decode cL_rules 773 = .ok (.goto (-20), 3) := by decide +kernel
theorem dL_rules_776 : decode cL_rules 776 = .ok (.aload_n 0, 1) := by decide +kernel
theorem dL_rules_777 : decode cL_rules 777 = .ok (.iconst 0, 1) := by decide +kernel
theorem dL_rules_778 : decode cL_rules 778 = .ok (.iconst 5, 1) := by decide +kernel
theorem dL_rules_779 : decode cL_rules 779 = .ok (.iconst 0, 1) := by decide +kernel
theorem dL_rules_780 : decode cL_rules 780 = .ok (.iconst 0, 1) := by decide +kernel
theorem dL_rules_781 : decode cL_rules 781 = .ok (.invokestatic 112, 3) := by decide +kernel
theorem dL_rules_784 : decode cL_rules 784 = .ok (.ldc2_w 89, 3) := by decide +kernel
theorem dL_rules_787 : decode cL_rules 787 = .ok (.lcmp, 1) := by decide +kernel
theorem dL_rules_788 : decode cL_rules 788 = .ok (.ifCond .ne 148, 3) := by decide +kernel
theorem dL_rules_791 : decode cL_rules 791 = .ok (.aload_n 0, 1) := by decide +kernel
theorem dL_rules_792 : decode cL_rules 792 = .ok (.bipush 17, 2) := by decide +kernel
theorem dL_rules_794 : decode cL_rules 794 = .ok (.bipush 9, 2) := by decide +kernel
theorem dL_rules_796 : decode cL_rules 796 = .ok (.iconst 0, 1) := by decide +kernel
theorem dL_rules_797 : decode cL_rules 797 = .ok (.iconst 1, 1) := by decide +kernel
theorem dL_rules_798 : decode cL_rules 798 = .ok (.invokestatic 112, 3) := by decide +kernel
theorem dL_rules_801 : decode cL_rules 801 = .ok (.ldc2_w 89, 3) := by decide +kernel
theorem dL_rules_804 : decode cL_rules 804 = .ok (.lcmp, 1) := by decide +kernel
theorem dL_rules_805 : decode cL_rules 805 = .ok (.ifCond .ne 131, 3) := by decide +kernel
theorem dL_rules_808 : decode cL_rules 808 = .ok (.aload_n 0, 1) := by decide +kernel
theorem dL_rules_809 : decode cL_rules 809 = .ok (.bipush 18, 2) := by decide +kernel
theorem dL_rules_811 : decode cL_rules 811 = .ok (.bipush 9, 2) := by decide +kernel
theorem dL_rules_813 : decode cL_rules 813 = .ok (.iconst 0, 1) := by decide +kernel
theorem dL_rules_814 : decode cL_rules 814 = .ok (.iconst 1, 1) := by decide +kernel
theorem dL_rules_815 : decode cL_rules 815 = .ok (.invokestatic 112, 3) := by decide +kernel
theorem dL_rules_818 : decode cL_rules 818 = .ok (.ldc2_w 89, 3) := by decide +kernel
theorem dL_rules_821 : decode cL_rules 821 = .ok (.lcmp, 1) := by decide +kernel
theorem dL_rules_822 : decode cL_rules 822 = .ok (.ifCond .ne 114, 3) := by decide +kernel
theorem dL_rules_825 : decode cL_rules 825 = .ok (.aload_n 0, 1) := by decide +kernel
theorem dL_rules_826 : decode cL_rules 826 = .ok (.bipush 9, 2) := by decide +kernel
theorem dL_rules_828 : decode cL_rules 828 = .ok (.invokevirtual 47, 3) := by decide +kernel
theorem dL_rules_831 : decode cL_rules 831 = .ok (.bipush 24, 2) := by decide +kernel
theorem dL_rules_833 : decode cL_rules 833 = .ok (.if_icmp .ne 103, 3) := by decide +kernel
theorem dL_rules_836 : decode cL_rules 836 = .ok (.aload_n 0, 1) := by decide +kernel
theorem dL_rules_837 : decode cL_rules 837 = .ok (.invokestatic 117, 3) := by decide +kernel
theorem dL_rules_840 : decode cL_rules 840 = .ok (.ifCond .eq 96, 3) := by decide +kernel
theorem dL_rules_843 : decode cL_rules 843 = .ok (.aload_n 0, 1) := by decide +kernel
theorem dL_rules_844 : decode cL_rules 844 = .ok (.iconst 3, 1) := by decide +kernel
theorem dL_rules_845 : decode cL_rules 845 = .ok (.invokestatic 101, 3) := by decide +kernel
theorem dL_rules_848 : decode cL_rules 848 = .ok (.ifCond .ne 88, 3) := by decide +kernel
theorem dL_rules_851 : decode cL_rules 851 = .ok (.aload_n 0, 1) := by decide +kernel
theorem dL_rules_852 : decode cL_rules 852 = .ok (.invokevirtual 91, 3) := by decide +kernel
theorem dL_rules_855 : decode cL_rules 855 = .ok (.ifCond .ne 81, 3) := by decide +kernel
theorem dL_rules_858 : decode cL_rules 858 = .ok (.aload_n 0, 1) := by decide +kernel
theorem dL_rules_859 : decode cL_rules 859 = .ok (.invokevirtual 94, 3) := by decide +kernel
theorem dL_rules_862 : decode cL_rules 862 = .ok (.iconst 1, 1) := by decide +kernel
theorem dL_rules_863 : decode cL_rules 863 = .ok (.if_icmp .ne 73, 3) := by decide +kernel
theorem dL_rules_866 : decode cL_rules 866 = .ok (.aload_n 0, 1) := by decide +kernel
theorem dL_rules_867 : decode cL_rules 867 = .ok (.iconst 1, 1) := by decide +kernel
theorem dL_rules_868 : decode cL_rules 868 = .ok (.invokevirtual 25, 3) := by decide +kernel
theorem dL_rules_871 : decode cL_rules 871 = .ok (.ifCond .ne 65, 3) := by decide +kernel
theorem dL_rules_874 : decode cL_rules 874 = .ok (.aload_n 0, 1) := by decide +kernel
theorem dL_rules_875 : decode cL_rules 875 = .ok (.iconst 1, 1) := by decide +kernel
theorem dL_rules_876 : decode cL_rules 876 = .ok (.invokevirtual 25, 3) := by decide +kernel
theorem dL_rules_879 : decode cL_rules 879 = .ok (.ifCond .ne 57, 3) := by decide +kernel
theorem dL_rules_882 : decode cL_rules 882 = .ok (.aload_n 0, 1) := by decide +kernel
theorem dL_rules_883 : decode cL_rules 883 = .ok (.iconst 0, 1) := by decide +kernel
theorem dL_rules_884 : decode cL_rules 884 = .ok (.invokevirtual 25, 3) := by decide +kernel
theorem dL_rules_887 : decode cL_rules 887 = .ok (.ifCond .eq 49, 3) := by decide +kernel
theorem dL_rules_890 : decode cL_rules 890 = .ok (.aload_n 0, 1) := by decide +kernel
theorem dL_rules_891 : decode cL_rules 891 = .ok (.iconst 0, 1) := by decide +kernel
theorem dL_rules_892 : decode cL_rules 892 = .ok (.invokevirtual 37, 3) := by decide +kernel
theorem dL_rules_895 : decode cL_rules 895 = .ok (.sipush 667, 3) := by decide +kernel
theorem dL_rules_898 : decode cL_rules 898 = .ok (.if_icmp .ne 38, 3) := by decide +kernel
theorem dL_rules_901 : decode cL_rules 901 = .ok (.aload_n 0, 1) := by decide +kernel
theorem dL_rules_902 : decode cL_rules 902 = .ok (.iconst 0, 1) := by decide +kernel
theorem dL_rules_903 : decode cL_rules 903 = .ok (.invokevirtual 53, 3) := by decide +kernel
theorem dL_rules_906 : decode cL_rules 906 = .ok (.sipush 1023, 3) := by decide +kernel
theorem dL_rules_909 : decode cL_rules 909 = .ok (.if_icmp .ne 27, 3) := by decide +kernel
theorem dL_rules_912 : decode cL_rules 912 = .ok (.aload_n 0, 1) := by decide +kernel
theorem dL_rules_913 : decode cL_rules 913 = .ok (.iconst 0, 1) := by decide +kernel
theorem dL_rules_914 : decode cL_rules 914 = .ok (.invokevirtual 56, 3) := by decide +kernel
theorem dL_rules_917 : decode cL_rules 917 = .ok (.sipush 2574, 3) := by decide +kernel
theorem dL_rules_920 : decode cL_rules 920 = .ok (.if_icmp .ne 16, 3) := by decide +kernel
theorem dL_rules_923 : decode cL_rules 923 = .ok (.aload_n 0, 1) := by decide +kernel
theorem dL_rules_924 : decode cL_rules 924 = .ok (.iconst 5, 1) := by decide +kernel
theorem dL_rules_925 : decode cL_rules 925 = .ok (.invokevirtual 71, 3) := by decide +kernel
theorem dL_rules_928 : decode cL_rules 928 = .ok (.iconst 2, 1) := by decide +kernel
theorem dL_rules_929 : decode cL_rules 929 = .ok (.if_icmp .ne 7, 3) := by decide +kernel
theorem dL_rules_932 : decode cL_rules 932 = .ok (.iconst 1, 1) := by decide +kernel
theorem dL_rules_933 : decode cL_rules 933 = .ok (.goto 4, 3) := by decide +kernel
theorem dL_rules_936 : decode cL_rules 936 = .ok (.iconst 0, 1) := by decide +kernel
theorem dL_rules_937 : decode cL_rules 937 = .ok (.ireturn, 1) := by decide +kernel
theorem dL_law_0 : decode cL_law 0 = .ok (.invokestatic 141, 3) := by decide +kernel
theorem dL_law_3 : decode cL_law 3 = .ok (.ifCond .eq 9, 3) := by decide +kernel
theorem dL_law_6 : decode cL_law 6 = .ok (.invokestatic 145, 3) := by decide +kernel
theorem dL_law_9 : decode cL_law 9 = .ok (.ifCond .ne 5, 3) := by decide +kernel
theorem dL_law_12 : decode cL_law 12 = .ok (.iconst 0, 1) := by decide +kernel
theorem dL_law_13 : decode cL_law 13 = .ok (.ireturn, 1) := by decide +kernel
theorem dL_law_14 : decode cL_law 14 = .ok (.new 8, 3) := by decide +kernel
theorem dL_law_17 : decode cL_law 17 = .ok (.dup, 1) := by decide +kernel
theorem dL_law_18 : decode cL_law 18 = .ok (.invokespecial 116, 3) := by decide +kernel
theorem dL_law_21 : decode cL_law 21 = .ok (.astore_n 1, 1) := by decide +kernel
theorem dL_law_22 : decode cL_law 22 = .ok (.iconst 2, 1) := by decide +kernel
theorem dL_law_23 : decode cL_law 23 = .ok (.aload_n 0, 1) := by decide +kernel
theorem dL_law_24 : decode cL_law 24 = .ok (.arraylength, 1) := by decide +kernel
theorem dL_law_25 : decode cL_law 25 = .ok (.ifCond .ne 7, 3) := by decide +kernel
theorem dL_law_28 : decode cL_law 28 = .ok (.iconst 3, 1) := by decide +kernel
theorem dL_law_29 : decode cL_law 29 = .ok (.goto 10, 3) := by decide +kernel
theorem dL_law_32 : decode cL_law 32 = .ok (.aload_n 0, 1) := by decide +kernel
theorem dL_law_33 : decode cL_law 33 = .ok (.iconst 0, 1) := by decide +kernel
theorem dL_law_34 : decode cL_law 34 = .ok (.iaload, 1) := by decide +kernel
theorem dL_law_35 : decode cL_law 35 = .ok (.iconst 4, 1) := by decide +kernel
theorem dL_law_36 : decode cL_law 36 = .ok (.iushr, 1) := by decide +kernel
theorem dL_law_37 : decode cL_law 37 = .ok (.iconst 5, 1) := by decide +kernel
theorem dL_law_38 : decode cL_law 38 = .ok (.irem, 1) := by decide +kernel
theorem dL_law_39 : decode cL_law 39 = .ok (.iadd, 1) := by decide +kernel
theorem dL_law_40 : decode cL_law 40 = .ok (.istore_n 2, 1) := by decide +kernel
theorem dL_law_41 : decode cL_law 41 = .ok (.aload_n 1, 1) := by decide +kernel
theorem dL_law_42 : decode cL_law 42 = .ok (.iload_n 2, 1) := by decide +kernel
theorem dL_law_43 : decode cL_law 43 = .ok (.invokestatic 101, 3) := by decide +kernel
theorem dL_law_46 : decode cL_law 46 = .ok (.ifCond .eq 5, 3) := by decide +kernel
theorem dL_law_49 : decode cL_law 49 = .ok (.iconst 0, 1) := by decide +kernel
theorem dL_law_50 : decode cL_law 50 = .ok (.ireturn, 1) := by decide +kernel
theorem dL_law_51 : decode cL_law 51 = .ok (.iconst 0, 1) := by decide +kernel
theorem dL_law_52 : decode cL_law 52 = .ok (.istore_n 3, 1) := by decide +kernel
theorem dL_law_53 : decode cL_law 53 = .ok (.iload_n 3, 1) := by decide +kernel
theorem dL_law_54 : decode cL_law 54 = .ok (.bipush 48, 2) := by decide +kernel
theorem dL_law_56 : decode cL_law 56 = .ok (.if_icmp .ge 90, 3) := by decide +kernel
theorem dL_law_59 : decode cL_law 59 = .ok (.aload_n 0, 1) := by decide +kernel
theorem dL_law_60 : decode cL_law 60 = .ok (.arraylength, 1) := by decide +kernel
theorem dL_law_61 : decode cL_law 61 = .ok (.ifCond .ne 10, 3) := by decide +kernel
theorem dL_law_64 : decode cL_law 64 = .ok (.bipush 17, 2) := by decide +kernel
theorem dL_law_66 : decode cL_law 66 = .ok (.iload_n 3, 1) := by decide +kernel
theorem dL_law_67 : decode cL_law 67 = .ok (.imul, 1) := by decide +kernel
theorem dL_law_68 : decode cL_law 68 = .ok (.goto 12, 3) := by decide +kernel
theorem dL_law_71 : decode cL_law 71 = .ok (.aload_n 0, 1) := by decide +kernel
theorem dL_law_72 : decode cL_law 72 = .ok (.iload_n 3, 1) := by decide +kernel
theorem dL_law_73 : decode cL_law 73 = .ok (.aload_n 0, 1) := by decide +kernel
theorem dL_law_74 : decode cL_law 74 = .ok (.arraylength, 1) := by decide +kernel
theorem dL_law_75 : decode cL_law 75 = .ok (.irem, 1) := by decide +kernel
theorem dL_law_76 : decode cL_law 76 = .ok (.iaload, 1) := by decide +kernel
theorem dL_law_77 : decode cL_law 77 = .ok (.bipush 9, 2) := by decide +kernel
theorem dL_law_79 : decode cL_law 79 = .ok (.iushr, 1) := by decide +kernel
theorem dL_law_80 : decode cL_law 80 = .ok (.istore 4, 2) := by decide +kernel
theorem dL_law_82 : decode cL_law 82 = .ok (.aload_n 1, 1) := by decide +kernel
theorem dL_law_83 : decode cL_law 83 = .ok (.iload 4, 2) := by decide +kernel
theorem dL_law_85 : decode cL_law 85 = .ok (.sipush 200, 3) := by decide +kernel
theorem dL_law_88 : decode cL_law 88 = .ok (.irem, 1) := by decide +kernel
theorem dL_law_89 : decode cL_law 89 = .ok (.bipush 100, 2) := by decide +kernel
theorem dL_law_91 : decode cL_law 91 = .ok (.isub, 1) := by decide +kernel
theorem dL_law_92 : decode cL_law 92 = .ok (.invokevirtual 25, 3) := by decide +kernel
theorem dL_law_95 : decode cL_law 95 = .ok (.iload_n 3, 1) := by decide +kernel
theorem dL_law_96 : decode cL_law 96 = .ok (.iload_n 2, 1) := by decide +kernel
theorem dL_law_97 : decode cL_law 97 = .ok (.irem, 1) := by decide +kernel
theorem dL_law_98 : decode cL_law 98 = .ok (.iload_n 2, 1) := by decide +kernel
theorem dL_law_99 : decode cL_law 99 = .ok (.iconst 1, 1) := by decide +kernel
theorem dL_law_100 : decode cL_law 100 = .ok (.isub, 1) := by decide +kernel
theorem dL_law_101 : decode cL_law 101 = .ok (.if_icmp .ne 7, 3) := by decide +kernel
theorem dL_law_104 : decode cL_law 104 = .ok (.iconst 1, 1) := by decide +kernel
theorem dL_law_105 : decode cL_law 105 = .ok (.goto 4, 3) := by decide +kernel
theorem dL_law_108 : decode cL_law 108 = .ok (.iconst 0, 1) := by decide +kernel
theorem dL_law_109 : decode cL_law 109 = .ok (.if_icmp .ne 29, 3) := by decide +kernel
theorem dL_law_112 : decode cL_law 112 = .ok (.aload_n 1, 1) := by decide +kernel
theorem dL_law_113 : decode cL_law 113 = .ok (.invokevirtual 91, 3) := by decide +kernel
theorem dL_law_116 : decode cL_law 116 = .ok (.iload_n 3, 1) := by decide +kernel
theorem dL_law_117 : decode cL_law 117 = .ok (.iconst 1, 1) := by decide +kernel
theorem dL_law_118 : decode cL_law 118 = .ok (.iadd, 1) := by decide +kernel
theorem dL_law_119 : decode cL_law 119 = .ok (.iload_n 2, 1) := by decide +kernel
theorem dL_law_120 : decode cL_law 120 = .ok (.idiv, 1) := by decide +kernel
theorem dL_law_121 : decode cL_law 121 = .ok (.if_icmp .ne 17, 3) := by decide +kernel
theorem dL_law_124 : decode cL_law 124 = .ok (.iload_n 3, 1) := by decide +kernel
theorem dL_law_125 : decode cL_law 125 = .ok (.bipush 12, 2) := by decide +kernel
theorem dL_law_127 : decode cL_law 127 = .ok (.irem, 1) := by decide +kernel
theorem dL_law_128 : decode cL_law 128 = .ok (.ifCond .ne 12, 3) := by decide +kernel
theorem dL_law_131 : decode cL_law 131 = .ok (.aload_n 1, 1) := by decide +kernel
theorem dL_law_132 : decode cL_law 132 = .ok (.invokestatic 117, 3) := by decide +kernel
theorem dL_law_135 : decode cL_law 135 = .ok (.ifCond .ne 5, 3) := by decide +kernel
theorem dL_law_138 : decode cL_law 138 = .ok (.iconst 0, 1) := by decide +kernel
theorem dL_law_139 : decode cL_law 139 = .ok (.ireturn, 1) := by decide +kernel
theorem dL_law_140 : decode cL_law 140 = .ok (.iinc 3 1, 3) := by decide +kernel
theorem dL_law_143 : decode cL_law 143 = .ok (.goto (-90), 3) := by decide +kernel
theorem dL_law_146 : decode cL_law 146 = .ok (.iconst 1, 1) := by decide +kernel
theorem dL_law_147 : decode cL_law 147 = .ok (.ireturn, 1) := by decide +kernel
