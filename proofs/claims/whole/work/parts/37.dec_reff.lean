theorem d_Model_execute_0 : decode b_Model_execute 0 = .ok (.iload_n 1, 1) := by decide +kernel
theorem d_Model_execute_1 : decode b_Model_execute 1 = .ok (.bipush 7, 2) := by decide +kernel
theorem d_Model_execute_3 : decode b_Model_execute 3 = .ok (.iconst 5, 1) := by decide +kernel
theorem d_Model_execute_4 : decode b_Model_execute 4 = .ok (.invokestatic 185, 3) := by decide +kernel
theorem d_Model_execute_7 : decode b_Model_execute 7 = .ok (.istore_n 2, 1) := by decide +kernel
theorem d_Model_execute_8 : decode b_Model_execute 8 = .ok (.iload_n 1, 1) := by decide +kernel
theorem d_Model_execute_9 : decode b_Model_execute 9 = .ok (.bipush 12, 2) := by decide +kernel
theorem d_Model_execute_11 : decode b_Model_execute 11 = .ok (.iconst 3, 1) := by decide +kernel
theorem d_Model_execute_12 : decode b_Model_execute 12 = .ok (.invokestatic 185, 3) := by decide +kernel
theorem d_Model_execute_15 : decode b_Model_execute 15 = .ok (.istore_n 3, 1) := by decide +kernel
theorem d_Model_execute_16 : decode b_Model_execute 16 = .ok (.iload_n 1, 1) := by decide +kernel
theorem d_Model_execute_17 : decode b_Model_execute 17 = .ok (.bipush 127, 2) := by decide +kernel
theorem d_Model_execute_19 : decode b_Model_execute 19 = .ok (.iand, 1) := by decide +kernel
theorem d_Model_execute_20 : decode b_Model_execute 20 = .ok (.lookupswitch 262 #[(3, 205), (15, 237), (19, 217), (23, 119), (35, 211), (47, 238), (51, 217), (55, 108), (99, 199), (103, 146), (111, 140), (115, 244)], 108) := by decide +kernel
theorem d_Model_execute_128 : decode b_Model_execute 128 = .ok (.aload_n 0, 1) := by decide +kernel
theorem d_Model_execute_129 : decode b_Model_execute 129 = .ok (.iload_n 2, 1) := by decide +kernel
theorem d_Model_execute_130 : decode b_Model_execute 130 = .ok (.iload_n 1, 1) := by decide +kernel
theorem d_Model_execute_131 : decode b_Model_execute 131 = .ok (.sipush (-4096), 3) := by decide +kernel
theorem d_Model_execute_134 : decode b_Model_execute 134 = .ok (.iand, 1) := by decide +kernel
theorem d_Model_execute_135 : decode b_Model_execute 135 = .ok (.invokevirtual 193, 3) := by decide +kernel
theorem d_Model_execute_138 : decode b_Model_execute 138 = .ok (.return_, 1) := by decide +kernel
theorem d_Model_execute_139 : decode b_Model_execute 139 = .ok (.aload_n 0, 1) := by decide +kernel
theorem d_Model_execute_140 : decode b_Model_execute 140 = .ok (.iload_n 2, 1) := by decide +kernel
theorem d_Model_execute_141 : decode b_Model_execute 141 = .ok (.aload_n 0, 1) := by decide +kernel
theorem d_Model_execute_142 : decode b_Model_execute 142 = .ok (.getfield 17, 3) := by decide +kernel
theorem d_Model_execute_145 : decode b_Model_execute 145 = .ok (.aload_n 0, 1) := by decide +kernel
theorem d_Model_execute_146 : decode b_Model_execute 146 = .ok (.getfield 87, 3) := by decide +kernel
theorem d_Model_execute_149 : decode b_Model_execute 149 = .ok (.iaload, 1) := by decide +kernel
theorem d_Model_execute_150 : decode b_Model_execute 150 = .ok (.iload_n 1, 1) := by decide +kernel
theorem d_Model_execute_151 : decode b_Model_execute 151 = .ok (.sipush (-4096), 3) := by decide +kernel
theorem d_Model_execute_154 : decode b_Model_execute 154 = .ok (.iand, 1) := by decide +kernel
theorem d_Model_execute_155 : decode b_Model_execute 155 = .ok (.iadd, 1) := by decide +kernel
theorem d_Model_execute_156 : decode b_Model_execute 156 = .ok (.invokevirtual 193, 3) := by decide +kernel
theorem d_Model_execute_159 : decode b_Model_execute 159 = .ok (.return_, 1) := by decide +kernel
theorem d_Model_execute_160 : decode b_Model_execute 160 = .ok (.aload_n 0, 1) := by decide +kernel
theorem d_Model_execute_161 : decode b_Model_execute 161 = .ok (.iload_n 1, 1) := by decide +kernel
theorem d_Model_execute_162 : decode b_Model_execute 162 = .ok (.invokevirtual 240, 3) := by decide +kernel
theorem d_Model_execute_165 : decode b_Model_execute 165 = .ok (.return_, 1) := by decide +kernel
theorem d_Model_execute_166 : decode b_Model_execute 166 = .ok (.iload_n 3, 1) := by decide +kernel
theorem d_Model_execute_167 : decode b_Model_execute 167 = .ok (.ifCond .eq 12, 3) := by decide +kernel
theorem d_Model_execute_170 : decode b_Model_execute 170 = .ok (.aload_n 0, 1) := by decide +kernel
theorem d_Model_execute_171 : decode b_Model_execute 171 = .ok (.iconst 2, 1) := by decide +kernel
theorem d_Model_execute_172 : decode b_Model_execute 172 = .ok (.iload_n 1, 1) := by decide +kernel
theorem d_Model_execute_173 : decode b_Model_execute 173 = .ok (.invokevirtual 127, 3) := by decide +kernel
theorem d_Model_execute_176 : decode b_Model_execute 176 = .ok (.goto 42, 3) := by decide +kernel
theorem d_Model_execute_179 : decode b_Model_execute 179 = .ok (.aload_n 0, 1) := by decide +kernel
theorem d_Model_execute_180 : decode b_Model_execute 180 = .ok (.aload_n 0, 1) := by decide +kernel
theorem d_Model_execute_181 : decode b_Model_execute 181 = .ok (.iload_n 1, 1) := by decide +kernel
theorem d_Model_execute_182 : decode b_Model_execute 182 = .ok (.bipush 15, 2) := by decide +kernel
theorem d_Model_execute_184 : decode b_Model_execute 184 = .ok (.iconst 5, 1) := by decide +kernel
theorem d_Model_execute_185 : decode b_Model_execute 185 = .ok (.invokestatic 185, 3) := by decide +kernel
theorem d_Model_execute_188 : decode b_Model_execute 188 = .ok (.invokevirtual 196, 3) := by decide +kernel
theorem d_Model_execute_191 : decode b_Model_execute 191 = .ok (.iload_n 1, 1) := by decide +kernel
theorem d_Model_execute_192 : decode b_Model_execute 192 = .ok (.bipush 20, 2) := by decide +kernel
theorem d_Model_execute_194 : decode b_Model_execute 194 = .ok (.ishr, 1) := by decide +kernel
theorem d_Model_execute_195 : decode b_Model_execute 195 = .ok (.iadd, 1) := by decide +kernel
theorem d_Model_execute_196 : decode b_Model_execute 196 = .ok (.bipush (-2), 2) := by decide +kernel
theorem d_Model_execute_198 : decode b_Model_execute 198 = .ok (.iand, 1) := by decide +kernel
theorem d_Model_execute_199 : decode b_Model_execute 199 = .ok (.invokevirtual 189, 3) := by decide +kernel
theorem d_Model_execute_202 : decode b_Model_execute 202 = .ok (.aload_n 0, 1) := by decide +kernel
theorem d_Model_execute_203 : decode b_Model_execute 203 = .ok (.iload_n 2, 1) := by decide +kernel
theorem d_Model_execute_204 : decode b_Model_execute 204 = .ok (.aload_n 0, 1) := by decide +kernel
theorem d_Model_execute_205 : decode b_Model_execute 205 = .ok (.getfield 17, 3) := by decide +kernel
theorem d_Model_execute_208 : decode b_Model_execute 208 = .ok (.aload_n 0, 1) := by decide +kernel
theorem d_Model_execute_209 : decode b_Model_execute 209 = .ok (.getfield 87, 3) := by decide +kernel
theorem d_Model_execute_212 : decode b_Model_execute 212 = .ok (.iaload, 1) := by decide +kernel
theorem d_Model_execute_213 : decode b_Model_execute 213 = .ok (.iconst 4, 1) := by decide +kernel
theorem d_Model_execute_214 : decode b_Model_execute 214 = .ok (.iadd, 1) := by decide +kernel
theorem d_Model_execute_215 : decode b_Model_execute 215 = .ok (.invokevirtual 193, 3) := by decide +kernel
theorem d_Model_execute_218 : decode b_Model_execute 218 = .ok (.return_, 1) := by decide +kernel
theorem d_Model_execute_219 : decode b_Model_execute 219 = .ok (.aload_n 0, 1) := by decide +kernel
theorem d_Model_execute_220 : decode b_Model_execute 220 = .ok (.iload_n 1, 1) := by decide +kernel
theorem d_Model_execute_221 : decode b_Model_execute 221 = .ok (.invokevirtual 243, 3) := by decide +kernel
theorem d_Model_execute_224 : decode b_Model_execute 224 = .ok (.return_, 1) := by decide +kernel
theorem d_Model_execute_225 : decode b_Model_execute 225 = .ok (.aload_n 0, 1) := by decide +kernel
theorem d_Model_execute_226 : decode b_Model_execute 226 = .ok (.iload_n 1, 1) := by decide +kernel
theorem d_Model_execute_227 : decode b_Model_execute 227 = .ok (.invokevirtual 246, 3) := by decide +kernel
theorem d_Model_execute_230 : decode b_Model_execute 230 = .ok (.return_, 1) := by decide +kernel
theorem d_Model_execute_231 : decode b_Model_execute 231 = .ok (.aload_n 0, 1) := by decide +kernel
theorem d_Model_execute_232 : decode b_Model_execute 232 = .ok (.iload_n 1, 1) := by decide +kernel
theorem d_Model_execute_233 : decode b_Model_execute 233 = .ok (.invokevirtual 249, 3) := by decide +kernel
theorem d_Model_execute_236 : decode b_Model_execute 236 = .ok (.return_, 1) := by decide +kernel
theorem d_Model_execute_237 : decode b_Model_execute 237 = .ok (.aload_n 0, 1) := by decide +kernel
theorem d_Model_execute_238 : decode b_Model_execute 238 = .ok (.iload_n 1, 1) := by decide +kernel
theorem d_Model_execute_239 : decode b_Model_execute 239 = .ok (.iload_n 1, 1) := by decide +kernel
theorem d_Model_execute_240 : decode b_Model_execute 240 = .ok (.bipush 127, 2) := by decide +kernel
theorem d_Model_execute_242 : decode b_Model_execute 242 = .ok (.iand, 1) := by decide +kernel
theorem d_Model_execute_243 : decode b_Model_execute 243 = .ok (.bipush 51, 2) := by decide +kernel
theorem d_Model_execute_245 : decode b_Model_execute 245 = .ok (.if_icmp .ne 7, 3) := by decide +kernel
theorem d_Model_execute_248 : decode b_Model_execute 248 = .ok (.iconst 1, 1) := by decide +kernel
theorem d_Model_execute_249 : decode b_Model_execute 249 = .ok (.goto 4, 3) := by decide +kernel
theorem d_Model_execute_252 : decode b_Model_execute 252 = .ok (.iconst 0, 1) := by decide +kernel
theorem d_Model_execute_253 : decode b_Model_execute 253 = .ok (.invokevirtual 252, 3) := by decide +kernel
theorem d_Model_execute_256 : decode b_Model_execute 256 = .ok (.return_, 1) := by decide +kernel
theorem d_Model_execute_257 : decode b_Model_execute 257 = .ok (.return_, 1) := by decide +kernel
theorem d_Model_execute_258 : decode b_Model_execute 258 = .ok (.aload_n 0, 1) := by decide +kernel
theorem d_Model_execute_259 : decode b_Model_execute 259 = .ok (.iload_n 1, 1) := by decide +kernel
theorem d_Model_execute_260 : decode b_Model_execute 260 = .ok (.invokevirtual 256, 3) := by decide +kernel
theorem d_Model_execute_263 : decode b_Model_execute 263 = .ok (.return_, 1) := by decide +kernel
theorem d_Model_execute_264 : decode b_Model_execute 264 = .ok (.iload_n 3, 1) := by decide +kernel
theorem d_Model_execute_265 : decode b_Model_execute 265 = .ok (.ifCond .ne 11, 3) := by decide +kernel
theorem d_Model_execute_268 : decode b_Model_execute 268 = .ok (.aload_n 0, 1) := by decide +kernel
theorem d_Model_execute_269 : decode b_Model_execute 269 = .ok (.iload_n 1, 1) := by decide +kernel
theorem d_Model_execute_270 : decode b_Model_execute 270 = .ok (.invokevirtual 258, 3) := by decide +kernel
theorem d_Model_execute_273 : decode b_Model_execute 273 = .ok (.goto 8, 3) := by decide +kernel
theorem d_Model_execute_276 : decode b_Model_execute 276 = .ok (.aload_n 0, 1) := by decide +kernel
theorem d_Model_execute_277 : decode b_Model_execute 277 = .ok (.iload_n 1, 1) := by decide +kernel
theorem d_Model_execute_278 : decode b_Model_execute 278 = .ok (.invokevirtual 261, 3) := by decide +kernel
theorem d_Model_execute_281 : decode b_Model_execute 281 = .ok (.return_, 1) := by decide +kernel
theorem d_Model_execute_282 : decode b_Model_execute 282 = .ok (.aload_n 0, 1) := by decide +kernel
theorem d_Model_execute_283 : decode b_Model_execute 283 = .ok (.iconst 2, 1) := by decide +kernel
theorem d_Model_execute_284 : decode b_Model_execute 284 = .ok (.iload_n 1, 1) := by decide +kernel
theorem d_Model_execute_285 : decode b_Model_execute 285 = .ok (.invokevirtual 127, 3) := by decide +kernel
theorem d_Model_execute_288 : decode b_Model_execute 288 = .ok (.return_, 1) := by decide +kernel
theorem d_Model_fetch_0 : decode b_Model_fetch 0 = .ok (.aload_n 0, 1) := by decide +kernel
theorem d_Model_fetch_1 : decode b_Model_fetch 1 = .ok (.aload_n 0, 1) := by decide +kernel
theorem d_Model_fetch_2 : decode b_Model_fetch 2 = .ok (.getfield 17, 3) := by decide +kernel
theorem d_Model_fetch_5 : decode b_Model_fetch 5 = .ok (.aload_n 0, 1) := by decide +kernel
theorem d_Model_fetch_6 : decode b_Model_fetch 6 = .ok (.getfield 87, 3) := by decide +kernel
theorem d_Model_fetch_9 : decode b_Model_fetch 9 = .ok (.iaload, 1) := by decide +kernel
theorem d_Model_fetch_10 : decode b_Model_fetch 10 = .ok (.iconst 0, 1) := by decide +kernel
theorem d_Model_fetch_11 : decode b_Model_fetch 11 = .ok (.invokevirtual 160, 3) := by decide +kernel
theorem d_Model_fetch_14 : decode b_Model_fetch 14 = .ok (.lstore_n 1, 1) := by decide +kernel
theorem d_Model_fetch_15 : decode b_Model_fetch 15 = .ok (.lload_n 1, 1) := by decide +kernel
theorem d_Model_fetch_16 : decode b_Model_fetch 16 = .ok (.lconst 0, 1) := by decide +kernel
theorem d_Model_fetch_17 : decode b_Model_fetch 17 = .ok (.lcmp, 1) := by decide +kernel
theorem d_Model_fetch_18 : decode b_Model_fetch 18 = .ok (.ifCond .ge 5, 3) := by decide +kernel
theorem d_Model_fetch_21 : decode b_Model_fetch 21 = .ok (.iconst 0, 1) := by decide +kernel
theorem d_Model_fetch_22 : decode b_Model_fetch 22 = .ok (.ireturn, 1) := by decide +kernel
theorem d_Model_fetch_23 : decode b_Model_fetch 23 = .ok (.aload_n 0, 1) := by decide +kernel
theorem d_Model_fetch_24 : decode b_Model_fetch 24 = .ok (.lload_n 1, 1) := by decide +kernel
theorem d_Model_fetch_25 : decode b_Model_fetch 25 = .ok (.invokevirtual 120, 3) := by decide +kernel
theorem d_Model_fetch_28 : decode b_Model_fetch 28 = .ok (.istore_n 3, 1) := by decide +kernel
theorem d_Model_fetch_29 : decode b_Model_fetch 29 = .ok (.iload_n 3, 1) := by decide +kernel
theorem d_Model_fetch_30 : decode b_Model_fetch 30 = .ok (.ifCond .ge 17, 3) := by decide +kernel
theorem d_Model_fetch_33 : decode b_Model_fetch 33 = .ok (.aload_n 0, 1) := by decide +kernel
theorem d_Model_fetch_34 : decode b_Model_fetch 34 = .ok (.iconst 1, 1) := by decide +kernel
theorem d_Model_fetch_35 : decode b_Model_fetch 35 = .ok (.aload_n 0, 1) := by decide +kernel
theorem d_Model_fetch_36 : decode b_Model_fetch 36 = .ok (.getfield 17, 3) := by decide +kernel
theorem d_Model_fetch_39 : decode b_Model_fetch 39 = .ok (.aload_n 0, 1) := by decide +kernel
theorem d_Model_fetch_40 : decode b_Model_fetch 40 = .ok (.getfield 87, 3) := by decide +kernel
theorem d_Model_fetch_43 : decode b_Model_fetch 43 = .ok (.iaload, 1) := by decide +kernel
theorem d_Model_fetch_44 : decode b_Model_fetch 44 = .ok (.invokevirtual 127, 3) := by decide +kernel
theorem d_Model_fetch_47 : decode b_Model_fetch 47 = .ok (.iload_n 3, 1) := by decide +kernel
theorem d_Model_fetch_48 : decode b_Model_fetch 48 = .ok (.ifCond .ge 7, 3) := by decide +kernel
theorem d_Model_fetch_51 : decode b_Model_fetch 51 = .ok (.iconst 0, 1) := by decide +kernel
theorem d_Model_fetch_52 : decode b_Model_fetch 52 = .ok (.goto 8, 3) := by decide +kernel
theorem d_Model_fetch_55 : decode b_Model_fetch 55 = .ok (.aload_n 0, 1) := by decide +kernel
theorem d_Model_fetch_56 : decode b_Model_fetch 56 = .ok (.iload_n 3, 1) := by decide +kernel
theorem d_Model_fetch_57 : decode b_Model_fetch 57 = .ok (.invokevirtual 65, 3) := by decide +kernel
theorem d_Model_fetch_60 : decode b_Model_fetch 60 = .ok (.ireturn, 1) := by decide +kernel
theorem d_Model_isHart_0 : decode b_Model_isHart 0 = .ok (.iload_n 0, 1) := by decide +kernel
theorem d_Model_isHart_1 : decode b_Model_isHart 1 = .ok (.ifCond .eq 8, 3) := by decide +kernel
theorem d_Model_isHart_4 : decode b_Model_isHart 4 = .ok (.iload_n 0, 1) := by decide +kernel
theorem d_Model_isHart_5 : decode b_Model_isHart 5 = .ok (.iconst 1, 1) := by decide +kernel
theorem d_Model_isHart_6 : decode b_Model_isHart 6 = .ok (.if_icmp .ne 7, 3) := by decide +kernel
theorem d_Model_isHart_9 : decode b_Model_isHart 9 = .ok (.iconst 1, 1) := by decide +kernel
theorem d_Model_isHart_10 : decode b_Model_isHart 10 = .ok (.goto 4, 3) := by decide +kernel
theorem d_Model_isHart_13 : decode b_Model_isHart 13 = .ok (.iconst 0, 1) := by decide +kernel
theorem d_Model_isHart_14 : decode b_Model_isHart 14 = .ok (.ireturn, 1) := by decide +kernel
theorem d_Model_step_0 : decode b_Model_step 0 = .ok (.iload_n 1, 1) := by decide +kernel
theorem d_Model_step_1 : decode b_Model_step 1 = .ok (.invokestatic 263, 3) := by decide +kernel
theorem d_Model_step_4 : decode b_Model_step 4 = .ok (.ifCond .ne 5, 3) := by decide +kernel
theorem d_Model_step_7 : decode b_Model_step 7 = .ok (.iconst (-1), 1) := by decide +kernel
theorem d_Model_step_8 : decode b_Model_step 8 = .ok (.ireturn, 1) := by decide +kernel
theorem d_Model_step_9 : decode b_Model_step 9 = .ok (.aload_n 0, 1) := by decide +kernel
theorem d_Model_step_10 : decode b_Model_step 10 = .ok (.iload_n 1, 1) := by decide +kernel
theorem d_Model_step_11 : decode b_Model_step 11 = .ok (.putfield 87, 3) := by decide +kernel
theorem d_Model_step_14 : decode b_Model_step 14 = .ok (.aload_n 0, 1) := by decide +kernel
theorem d_Model_step_15 : decode b_Model_step 15 = .ok (.invokevirtual 266, 3) := by decide +kernel
theorem d_Model_step_18 : decode b_Model_step 18 = .ok (.istore_n 2, 1) := by decide +kernel
theorem d_Model_step_19 : decode b_Model_step 19 = .ok (.iload_n 2, 1) := by decide +kernel
theorem d_Model_step_20 : decode b_Model_step 20 = .ok (.ifCond .lt 8, 3) := by decide +kernel
theorem d_Model_step_23 : decode b_Model_step 23 = .ok (.bipush 64, 2) := by decide +kernel
theorem d_Model_step_25 : decode b_Model_step 25 = .ok (.iload_n 2, 1) := by decide +kernel
theorem d_Model_step_26 : decode b_Model_step 26 = .ok (.iadd, 1) := by decide +kernel
theorem d_Model_step_27 : decode b_Model_step 27 = .ok (.ireturn, 1) := by decide +kernel
theorem d_Model_step_28 : decode b_Model_step 28 = .ok (.aload_n 0, 1) := by decide +kernel
theorem d_Model_step_29 : decode b_Model_step 29 = .ok (.iconst (-1), 1) := by decide +kernel
theorem d_Model_step_30 : decode b_Model_step 30 = .ok (.putfield 90, 3) := by decide +kernel
theorem d_Model_step_33 : decode b_Model_step 33 = .ok (.aload_n 0, 1) := by decide +kernel
theorem d_Model_step_34 : decode b_Model_step 34 = .ok (.aload_n 0, 1) := by decide +kernel
theorem d_Model_step_35 : decode b_Model_step 35 = .ok (.getfield 17, 3) := by decide +kernel
theorem d_Model_step_38 : decode b_Model_step 38 = .ok (.aload_n 0, 1) := by decide +kernel
theorem d_Model_step_39 : decode b_Model_step 39 = .ok (.getfield 87, 3) := by decide +kernel
theorem d_Model_step_42 : decode b_Model_step 42 = .ok (.iaload, 1) := by decide +kernel
theorem d_Model_step_43 : decode b_Model_step 43 = .ok (.iconst 4, 1) := by decide +kernel
theorem d_Model_step_44 : decode b_Model_step 44 = .ok (.iadd, 1) := by decide +kernel
theorem d_Model_step_45 : decode b_Model_step 45 = .ok (.putfield 182, 3) := by decide +kernel
theorem d_Model_step_48 : decode b_Model_step 48 = .ok (.aload_n 0, 1) := by decide +kernel
theorem d_Model_step_49 : decode b_Model_step 49 = .ok (.invokevirtual 269, 3) := by decide +kernel
theorem d_Model_step_52 : decode b_Model_step 52 = .ok (.istore_n 3, 1) := by decide +kernel
theorem d_Model_step_53 : decode b_Model_step 53 = .ok (.aload_n 0, 1) := by decide +kernel
theorem d_Model_step_54 : decode b_Model_step 54 = .ok (.getfield 90, 3) := by decide +kernel
theorem d_Model_step_57 : decode b_Model_step 57 = .ok (.iconst (-1), 1) := by decide +kernel
theorem d_Model_step_58 : decode b_Model_step 58 = .ok (.if_icmp .ne 8, 3) := by decide +kernel
theorem d_Model_step_61 : decode b_Model_step 61 = .ok (.aload_n 0, 1) := by decide +kernel
theorem d_Model_step_62 : decode b_Model_step 62 = .ok (.iload_n 3, 1) := by decide +kernel
theorem d_Model_step_63 : decode b_Model_step 63 = .ok (.invokevirtual 272, 3) := by decide +kernel
theorem d_Model_step_66 : decode b_Model_step 66 = .ok (.aload_n 0, 1) := by decide +kernel
theorem d_Model_step_67 : decode b_Model_step 67 = .ok (.getfield 90, 3) := by decide +kernel
theorem d_Model_step_70 : decode b_Model_step 70 = .ok (.iconst (-1), 1) := by decide +kernel
theorem d_Model_step_71 : decode b_Model_step 71 = .ok (.if_icmp .ne 18, 3) := by decide +kernel
theorem d_Model_step_74 : decode b_Model_step 74 = .ok (.aload_n 0, 1) := by decide +kernel
theorem d_Model_step_75 : decode b_Model_step 75 = .ok (.getfield 17, 3) := by decide +kernel
theorem d_Model_step_78 : decode b_Model_step 78 = .ok (.aload_n 0, 1) := by decide +kernel
theorem d_Model_step_79 : decode b_Model_step 79 = .ok (.getfield 87, 3) := by decide +kernel
theorem d_Model_step_82 : decode b_Model_step 82 = .ok (.aload_n 0, 1) := by decide +kernel
theorem d_Model_step_83 : decode b_Model_step 83 = .ok (.getfield 182, 3) := by decide +kernel
theorem d_Model_step_86 : decode b_Model_step 86 = .ok (.iastore, 1) := by decide +kernel
theorem d_Model_step_87 : decode b_Model_step 87 = .ok (.iconst 0, 1) := by decide +kernel
theorem d_Model_step_88 : decode b_Model_step 88 = .ok (.ireturn, 1) := by decide +kernel
theorem d_Model_step_89 : decode b_Model_step 89 = .ok (.aload_n 0, 1) := by decide +kernel
theorem d_Model_step_90 : decode b_Model_step 90 = .ok (.aload_n 0, 1) := by decide +kernel
theorem d_Model_step_91 : decode b_Model_step 91 = .ok (.getfield 90, 3) := by decide +kernel
theorem d_Model_step_94 : decode b_Model_step 94 = .ok (.aload_n 0, 1) := by decide +kernel
theorem d_Model_step_95 : decode b_Model_step 95 = .ok (.getfield 93, 3) := by decide +kernel
theorem d_Model_step_98 : decode b_Model_step 98 = .ok (.aload_n 0, 1) := by decide +kernel
theorem d_Model_step_99 : decode b_Model_step 99 = .ok (.getfield 20, 3) := by decide +kernel
theorem d_Model_step_102 : decode b_Model_step 102 = .ok (.aload_n 0, 1) := by decide +kernel
theorem d_Model_step_103 : decode b_Model_step 103 = .ok (.getfield 87, 3) := by decide +kernel
theorem d_Model_step_106 : decode b_Model_step 106 = .ok (.iaload, 1) := by decide +kernel
theorem d_Model_step_107 : decode b_Model_step 107 = .ok (.iconst 3, 1) := by decide +kernel
theorem d_Model_step_108 : decode b_Model_step 108 = .ok (.if_icmp .ge 29, 3) := by decide +kernel
theorem d_Model_step_111 : decode b_Model_step 111 = .ok (.aload_n 0, 1) := by decide +kernel
theorem d_Model_step_112 : decode b_Model_step 112 = .ok (.aload_n 0, 1) := by decide +kernel
theorem d_Model_step_113 : decode b_Model_step 113 = .ok (.getfield 87, 3) := by decide +kernel
theorem d_Model_step_116 : decode b_Model_step 116 = .ok (.sipush 770, 3) := by decide +kernel
theorem d_Model_step_119 : decode b_Model_step 119 = .ok (.invokevirtual 71, 3) := by decide +kernel
theorem d_Model_step_122 : decode b_Model_step 122 = .ok (.aload_n 0, 1) := by decide +kernel
theorem d_Model_step_123 : decode b_Model_step 123 = .ok (.getfield 90, 3) := by decide +kernel
theorem d_Model_step_126 : decode b_Model_step 126 = .ok (.ishr, 1) := by decide +kernel
theorem d_Model_step_127 : decode b_Model_step 127 = .ok (.iconst 1, 1) := by decide +kernel
theorem d_Model_step_128 : decode b_Model_step 128 = .ok (.iand, 1) := by decide +kernel
theorem d_Model_step_129 : decode b_Model_step 129 = .ok (.iconst 1, 1) := by decide +kernel
theorem d_Model_step_130 : decode b_Model_step 130 = .ok (.if_icmp .ne 7, 3) := by decide +kernel
theorem d_Model_step_133 : decode b_Model_step 133 = .ok (.iconst 1, 1) := by decide +kernel
theorem d_Model_step_134 : decode b_Model_step 134 = .ok (.goto 4, 3) := by decide +kernel
theorem d_Model_step_137 : decode b_Model_step 137 = .ok (.iconst 0, 1) := by decide +kernel
theorem d_Model_step_138 : decode b_Model_step 138 = .ok (.invokevirtual 106, 3) := by decide +kernel
theorem d_Model_step_141 : decode b_Model_step 141 = .ok (.iconst 1, 1) := by decide +kernel
theorem d_Model_step_142 : decode b_Model_step 142 = .ok (.aload_n 0, 1) := by decide +kernel
theorem d_Model_step_143 : decode b_Model_step 143 = .ok (.getfield 90, 3) := by decide +kernel
theorem d_Model_step_146 : decode b_Model_step 146 = .ok (.iadd, 1) := by decide +kernel
theorem d_Model_step_147 : decode b_Model_step 147 = .ok (.ireturn, 1) := by decide +kernel
theorem d_Model_tick_0 : decode b_Model_tick 0 = .ok (.aload_n 0, 1) := by decide +kernel
theorem d_Model_tick_1 : decode b_Model_tick 1 = .ok (.dup, 1) := by decide +kernel
theorem d_Model_tick_2 : decode b_Model_tick 2 = .ok (.getfield 49, 3) := by decide +kernel
theorem d_Model_tick_5 : decode b_Model_tick 5 = .ok (.lconst 1, 1) := by decide +kernel
theorem d_Model_tick_6 : decode b_Model_tick 6 = .ok (.ladd, 1) := by decide +kernel
theorem d_Model_tick_7 : decode b_Model_tick 7 = .ok (.putfield 49, 3) := by decide +kernel
theorem d_Model_tick_10 : decode b_Model_tick 10 = .ok (.return_, 1) := by decide +kernel
theorem d_Model_register_0 : decode b_Model_register 0 = .ok (.iload_n 1, 1) := by decide +kernel
theorem d_Model_register_1 : decode b_Model_register 1 = .ok (.invokestatic 263, 3) := by decide +kernel
theorem d_Model_register_4 : decode b_Model_register 4 = .ok (.ifCond .eq 27, 3) := by decide +kernel
theorem d_Model_register_7 : decode b_Model_register 7 = .ok (.iload_n 2, 1) := by decide +kernel
theorem d_Model_register_8 : decode b_Model_register 8 = .ok (.ifCond .lt 23, 3) := by decide +kernel
theorem d_Model_register_11 : decode b_Model_register 11 = .ok (.iload_n 2, 1) := by decide +kernel
theorem d_Model_register_12 : decode b_Model_register 12 = .ok (.bipush 32, 2) := by decide +kernel
theorem d_Model_register_14 : decode b_Model_register 14 = .ok (.if_icmp .ge 17, 3) := by decide +kernel
theorem d_Model_register_17 : decode b_Model_register 17 = .ok (.aload_n 0, 1) := by decide +kernel
theorem d_Model_register_18 : decode b_Model_register 18 = .ok (.getfield 13, 3) := by decide +kernel
theorem d_Model_register_21 : decode b_Model_register 21 = .ok (.bipush 32, 2) := by decide +kernel
theorem d_Model_register_23 : decode b_Model_register 23 = .ok (.iload_n 1, 1) := by decide +kernel
theorem d_Model_register_24 : decode b_Model_register 24 = .ok (.imul, 1) := by decide +kernel
theorem d_Model_register_25 : decode b_Model_register 25 = .ok (.iload_n 2, 1) := by decide +kernel
theorem d_Model_register_26 : decode b_Model_register 26 = .ok (.iadd, 1) := by decide +kernel
theorem d_Model_register_27 : decode b_Model_register 27 = .ok (.iaload, 1) := by decide +kernel
theorem d_Model_register_28 : decode b_Model_register 28 = .ok (.goto 4, 3) := by decide +kernel
theorem d_Model_register_31 : decode b_Model_register 31 = .ok (.iconst 0, 1) := by decide +kernel
theorem d_Model_register_32 : decode b_Model_register 32 = .ok (.ireturn, 1) := by decide +kernel
theorem d_Model_set_0 : decode b_Model_set 0 = .ok (.iload_n 1, 1) := by decide +kernel
theorem d_Model_set_1 : decode b_Model_set 1 = .ok (.invokestatic 263, 3) := by decide +kernel
theorem d_Model_set_4 : decode b_Model_set 4 = .ok (.ifCond .eq 14, 3) := by decide +kernel
theorem d_Model_set_7 : decode b_Model_set 7 = .ok (.iload_n 2, 1) := by decide +kernel
theorem d_Model_set_8 : decode b_Model_set 8 = .ok (.iconst 1, 1) := by decide +kernel
theorem d_Model_set_9 : decode b_Model_set 9 = .ok (.if_icmp .lt 9, 3) := by decide +kernel
theorem d_Model_set_12 : decode b_Model_set 12 = .ok (.iload_n 2, 1) := by decide +kernel
theorem d_Model_set_13 : decode b_Model_set 13 = .ok (.bipush 31, 2) := by decide +kernel
theorem d_Model_set_15 : decode b_Model_set 15 = .ok (.if_icmp .le 5, 3) := by decide +kernel
theorem d_Model_set_18 : decode b_Model_set 18 = .ok (.iconst 0, 1) := by decide +kernel
theorem d_Model_set_19 : decode b_Model_set 19 = .ok (.ireturn, 1) := by decide +kernel
theorem d_Model_set_20 : decode b_Model_set 20 = .ok (.aload_n 0, 1) := by decide +kernel
theorem d_Model_set_21 : decode b_Model_set 21 = .ok (.getfield 13, 3) := by decide +kernel
theorem d_Model_set_24 : decode b_Model_set 24 = .ok (.bipush 32, 2) := by decide +kernel
theorem d_Model_set_26 : decode b_Model_set 26 = .ok (.iload_n 1, 1) := by decide +kernel
theorem d_Model_set_27 : decode b_Model_set 27 = .ok (.imul, 1) := by decide +kernel
theorem d_Model_set_28 : decode b_Model_set 28 = .ok (.iload_n 2, 1) := by decide +kernel
theorem d_Model_set_29 : decode b_Model_set 29 = .ok (.iadd, 1) := by decide +kernel
theorem d_Model_set_30 : decode b_Model_set 30 = .ok (.iload_n 3, 1) := by decide +kernel
theorem d_Model_set_31 : decode b_Model_set 31 = .ok (.iastore, 1) := by decide +kernel
theorem d_Model_set_32 : decode b_Model_set 32 = .ok (.iconst 1, 1) := by decide +kernel
theorem d_Model_set_33 : decode b_Model_set 33 = .ok (.ireturn, 1) := by decide +kernel
theorem d_Model_pc_0 : decode b_Model_pc 0 = .ok (.iload_n 1, 1) := by decide +kernel
theorem d_Model_pc_1 : decode b_Model_pc 1 = .ok (.invokestatic 263, 3) := by decide +kernel
theorem d_Model_pc_4 : decode b_Model_pc 4 = .ok (.ifCond .eq 12, 3) := by decide +kernel
theorem d_Model_pc_7 : decode b_Model_pc 7 = .ok (.aload_n 0, 1) := by decide +kernel
theorem d_Model_pc_8 : decode b_Model_pc 8 = .ok (.getfield 17, 3) := by decide +kernel
theorem d_Model_pc_11 : decode b_Model_pc 11 = .ok (.iload_n 1, 1) := by decide +kernel
theorem d_Model_pc_12 : decode b_Model_pc 12 = .ok (.iaload, 1) := by decide +kernel
theorem d_Model_pc_13 : decode b_Model_pc 13 = .ok (.goto 4, 3) := by decide +kernel
theorem d_Model_pc_16 : decode b_Model_pc 16 = .ok (.iconst 0, 1) := by decide +kernel
theorem d_Model_pc_17 : decode b_Model_pc 17 = .ok (.ireturn, 1) := by decide +kernel
theorem d_Model_csr_0 : decode b_Model_csr 0 = .ok (.iload_n 1, 1) := by decide +kernel
theorem d_Model_csr_1 : decode b_Model_csr 1 = .ok (.invokestatic 263, 3) := by decide +kernel
theorem d_Model_csr_4 : decode b_Model_csr 4 = .ok (.ifCond .eq 19, 3) := by decide +kernel
theorem d_Model_csr_7 : decode b_Model_csr 7 = .ok (.iload_n 2, 1) := by decide +kernel
theorem d_Model_csr_8 : decode b_Model_csr 8 = .ok (.invokestatic 234, 3) := by decide +kernel
theorem d_Model_csr_11 : decode b_Model_csr 11 = .ok (.ifCond .eq 12, 3) := by decide +kernel
theorem d_Model_csr_14 : decode b_Model_csr 14 = .ok (.aload_n 0, 1) := by decide +kernel
theorem d_Model_csr_15 : decode b_Model_csr 15 = .ok (.iload_n 1, 1) := by decide +kernel
theorem d_Model_csr_16 : decode b_Model_csr 16 = .ok (.iload_n 2, 1) := by decide +kernel
theorem d_Model_csr_17 : decode b_Model_csr 17 = .ok (.invokevirtual 96, 3) := by decide +kernel
theorem d_Model_csr_20 : decode b_Model_csr 20 = .ok (.goto 4, 3) := by decide +kernel
theorem d_Model_csr_23 : decode b_Model_csr 23 = .ok (.iconst 0, 1) := by decide +kernel
theorem d_Model_csr_24 : decode b_Model_csr 24 = .ok (.ireturn, 1) := by decide +kernel
theorem d_Model_put_0 : decode b_Model_put 0 = .ok (.iload_n 1, 1) := by decide +kernel
theorem d_Model_put_1 : decode b_Model_put 1 = .ok (.invokestatic 263, 3) := by decide +kernel
theorem d_Model_put_4 : decode b_Model_put 4 = .ok (.ifCond .eq 18, 3) := by decide +kernel
theorem d_Model_put_7 : decode b_Model_put 7 = .ok (.iload_n 2, 1) := by decide +kernel
theorem d_Model_put_8 : decode b_Model_put 8 = .ok (.invokestatic 234, 3) := by decide +kernel
theorem d_Model_put_11 : decode b_Model_put 11 = .ok (.ifCond .eq 11, 3) := by decide +kernel
theorem d_Model_put_14 : decode b_Model_put 14 = .ok (.iload_n 2, 1) := by decide +kernel
theorem d_Model_put_15 : decode b_Model_put 15 = .ok (.bipush 10, 2) := by decide +kernel
theorem d_Model_put_17 : decode b_Model_put 17 = .ok (.ishr, 1) := by decide +kernel
theorem d_Model_put_18 : decode b_Model_put 18 = .ok (.iconst 3, 1) := by decide +kernel
theorem d_Model_put_19 : decode b_Model_put 19 = .ok (.if_icmp .ne 5, 3) := by decide +kernel
theorem d_Model_put_22 : decode b_Model_put 22 = .ok (.iconst 0, 1) := by decide +kernel
theorem d_Model_put_23 : decode b_Model_put 23 = .ok (.ireturn, 1) := by decide +kernel
theorem d_Model_put_24 : decode b_Model_put 24 = .ok (.aload_n 0, 1) := by decide +kernel
theorem d_Model_put_25 : decode b_Model_put 25 = .ok (.iload_n 1, 1) := by decide +kernel
theorem d_Model_put_26 : decode b_Model_put 26 = .ok (.iload_n 2, 1) := by decide +kernel
theorem d_Model_put_27 : decode b_Model_put 27 = .ok (.iload_n 3, 1) := by decide +kernel
theorem d_Model_put_28 : decode b_Model_put 28 = .ok (.invokevirtual 237, 3) := by decide +kernel
theorem d_Model_put_31 : decode b_Model_put 31 = .ok (.iconst 1, 1) := by decide +kernel
theorem d_Model_put_32 : decode b_Model_put 32 = .ok (.ireturn, 1) := by decide +kernel
theorem d_Model_level_0 : decode b_Model_level 0 = .ok (.iload_n 1, 1) := by decide +kernel
theorem d_Model_level_1 : decode b_Model_level 1 = .ok (.invokestatic 263, 3) := by decide +kernel
theorem d_Model_level_4 : decode b_Model_level 4 = .ok (.ifCond .eq 12, 3) := by decide +kernel
theorem d_Model_level_7 : decode b_Model_level 7 = .ok (.aload_n 0, 1) := by decide +kernel
theorem d_Model_level_8 : decode b_Model_level 8 = .ok (.getfield 20, 3) := by decide +kernel
theorem d_Model_level_11 : decode b_Model_level 11 = .ok (.iload_n 1, 1) := by decide +kernel
theorem d_Model_level_12 : decode b_Model_level 12 = .ok (.iaload, 1) := by decide +kernel
theorem d_Model_level_13 : decode b_Model_level 13 = .ok (.goto 4, 3) := by decide +kernel
theorem d_Model_level_16 : decode b_Model_level 16 = .ok (.iconst (-1), 1) := by decide +kernel
theorem d_Model_level_17 : decode b_Model_level 17 = .ok (.ireturn, 1) := by decide +kernel
theorem d_Model_size_0 : decode b_Model_size 0 = .ok (.aload_n 0, 1) := by decide +kernel
theorem d_Model_size_1 : decode b_Model_size 1 = .ok (.getfield 179, 3) := by decide +kernel
theorem d_Model_size_4 : decode b_Model_size 4 = .ok (.ireturn, 1) := by decide +kernel
theorem d_Model_out_0 : decode b_Model_out 0 = .ok (.iload_n 1, 1) := by decide +kernel
theorem d_Model_out_1 : decode b_Model_out 1 = .ok (.ifCond .lt 20, 3) := by decide +kernel
theorem d_Model_out_4 : decode b_Model_out 4 = .ok (.iload_n 1, 1) := by decide +kernel
theorem d_Model_out_5 : decode b_Model_out 5 = .ok (.aload_n 0, 1) := by decide +kernel
theorem d_Model_out_6 : decode b_Model_out 6 = .ok (.getfield 179, 3) := by decide +kernel
theorem d_Model_out_9 : decode b_Model_out 9 = .ok (.if_icmp .ge 12, 3) := by decide +kernel
theorem d_Model_out_12 : decode b_Model_out 12 = .ok (.aload_n 0, 1) := by decide +kernel
theorem d_Model_out_13 : decode b_Model_out 13 = .ok (.getfield 36, 3) := by decide +kernel
theorem d_Model_out_16 : decode b_Model_out 16 = .ok (.iload_n 1, 1) := by decide +kernel
theorem d_Model_out_17 : decode b_Model_out 17 = .ok (.iaload, 1) := by decide +kernel
theorem d_Model_out_18 : decode b_Model_out 18 = .ok (.goto 4, 3) := by decide +kernel
theorem d_Model_out_21 : decode b_Model_out 21 = .ok (.iconst (-1), 1) := by decide +kernel
theorem d_Model_out_22 : decode b_Model_out 22 = .ok (.ireturn, 1) := by decide +kernel
