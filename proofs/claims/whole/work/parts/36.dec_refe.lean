theorem d_Model_claims_0 : decode b_Model_claims 0 = .ok (.iload_n 1, 1) := by decide +kernel
theorem d_Model_claims_1 : decode b_Model_claims 1 = .ok (.bipush 27, 2) := by decide +kernel
theorem d_Model_claims_3 : decode b_Model_claims 3 = .ok (.iconst 5, 1) := by decide +kernel
theorem d_Model_claims_4 : decode b_Model_claims 4 = .ok (.invokestatic 185, 3) := by decide +kernel
theorem d_Model_claims_7 : decode b_Model_claims 7 = .ok (.istore_n 2, 1) := by decide +kernel
theorem d_Model_claims_8 : decode b_Model_claims 8 = .ok (.iload_n 2, 1) := by decide +kernel
theorem d_Model_claims_9 : decode b_Model_claims 9 = .ok (.iconst 5, 1) := by decide +kernel
theorem d_Model_claims_10 : decode b_Model_claims 10 = .ok (.if_icmp .lt 27, 3) := by decide +kernel
theorem d_Model_claims_13 : decode b_Model_claims 13 = .ok (.iload_n 2, 1) := by decide +kernel
theorem d_Model_claims_14 : decode b_Model_claims 14 = .ok (.bipush 8, 2) := by decide +kernel
theorem d_Model_claims_16 : decode b_Model_claims 16 = .ok (.if_icmp .eq 21, 3) := by decide +kernel
theorem d_Model_claims_19 : decode b_Model_claims 19 = .ok (.iload_n 2, 1) := by decide +kernel
theorem d_Model_claims_20 : decode b_Model_claims 20 = .ok (.bipush 12, 2) := by decide +kernel
theorem d_Model_claims_22 : decode b_Model_claims 22 = .ok (.if_icmp .eq 15, 3) := by decide +kernel
theorem d_Model_claims_25 : decode b_Model_claims 25 = .ok (.iload_n 2, 1) := by decide +kernel
theorem d_Model_claims_26 : decode b_Model_claims 26 = .ok (.bipush 16, 2) := by decide +kernel
theorem d_Model_claims_28 : decode b_Model_claims 28 = .ok (.if_icmp .lt 13, 3) := by decide +kernel
theorem d_Model_claims_31 : decode b_Model_claims 31 = .ok (.iload_n 2, 1) := by decide +kernel
theorem d_Model_claims_32 : decode b_Model_claims 32 = .ok (.iconst 4, 1) := by decide +kernel
theorem d_Model_claims_33 : decode b_Model_claims 33 = .ok (.irem, 1) := by decide +kernel
theorem d_Model_claims_34 : decode b_Model_claims 34 = .ok (.ifCond .ne 7, 3) := by decide +kernel
theorem d_Model_claims_37 : decode b_Model_claims 37 = .ok (.iconst 1, 1) := by decide +kernel
theorem d_Model_claims_38 : decode b_Model_claims 38 = .ok (.goto 4, 3) := by decide +kernel
theorem d_Model_claims_41 : decode b_Model_claims 41 = .ok (.iconst 0, 1) := by decide +kernel
theorem d_Model_claims_42 : decode b_Model_claims 42 = .ok (.istore_n 3, 1) := by decide +kernel
theorem d_Model_claims_43 : decode b_Model_claims 43 = .ok (.iload_n 1, 1) := by decide +kernel
theorem d_Model_claims_44 : decode b_Model_claims 44 = .ok (.bipush 12, 2) := by decide +kernel
theorem d_Model_claims_46 : decode b_Model_claims 46 = .ok (.iconst 3, 1) := by decide +kernel
theorem d_Model_claims_47 : decode b_Model_claims 47 = .ok (.invokestatic 185, 3) := by decide +kernel
theorem d_Model_claims_50 : decode b_Model_claims 50 = .ok (.iconst 2, 1) := by decide +kernel
theorem d_Model_claims_51 : decode b_Model_claims 51 = .ok (.if_icmp .ne 22, 3) := by decide +kernel
theorem d_Model_claims_54 : decode b_Model_claims 54 = .ok (.iload_n 3, 1) := by decide +kernel
theorem d_Model_claims_55 : decode b_Model_claims 55 = .ok (.ifCond .eq 18, 3) := by decide +kernel
theorem d_Model_claims_58 : decode b_Model_claims 58 = .ok (.iload_n 2, 1) := by decide +kernel
theorem d_Model_claims_59 : decode b_Model_claims 59 = .ok (.iconst 2, 1) := by decide +kernel
theorem d_Model_claims_60 : decode b_Model_claims 60 = .ok (.if_icmp .ne 20, 3) := by decide +kernel
theorem d_Model_claims_63 : decode b_Model_claims 63 = .ok (.iload_n 1, 1) := by decide +kernel
theorem d_Model_claims_64 : decode b_Model_claims 64 = .ok (.bipush 20, 2) := by decide +kernel
theorem d_Model_claims_66 : decode b_Model_claims 66 = .ok (.iconst 5, 1) := by decide +kernel
theorem d_Model_claims_67 : decode b_Model_claims 67 = .ok (.invokestatic 185, 3) := by decide +kernel
theorem d_Model_claims_70 : decode b_Model_claims 70 = .ok (.ifCond .eq 10, 3) := by decide +kernel
theorem d_Model_claims_73 : decode b_Model_claims 73 = .ok (.aload_n 0, 1) := by decide +kernel
theorem d_Model_claims_74 : decode b_Model_claims 74 = .ok (.iconst 2, 1) := by decide +kernel
theorem d_Model_claims_75 : decode b_Model_claims 75 = .ok (.iload_n 1, 1) := by decide +kernel
theorem d_Model_claims_76 : decode b_Model_claims 76 = .ok (.invokevirtual 127, 3) := by decide +kernel
theorem d_Model_claims_79 : decode b_Model_claims 79 = .ok (.return_, 1) := by decide +kernel
theorem d_Model_claims_80 : decode b_Model_claims 80 = .ok (.aload_n 0, 1) := by decide +kernel
theorem d_Model_claims_81 : decode b_Model_claims 81 = .ok (.aload_n 0, 1) := by decide +kernel
theorem d_Model_claims_82 : decode b_Model_claims 82 = .ok (.iload_n 1, 1) := by decide +kernel
theorem d_Model_claims_83 : decode b_Model_claims 83 = .ok (.bipush 15, 2) := by decide +kernel
theorem d_Model_claims_85 : decode b_Model_claims 85 = .ok (.iconst 5, 1) := by decide +kernel
theorem d_Model_claims_86 : decode b_Model_claims 86 = .ok (.invokestatic 185, 3) := by decide +kernel
theorem d_Model_claims_89 : decode b_Model_claims 89 = .ok (.invokevirtual 196, 3) := by decide +kernel
theorem d_Model_claims_92 : decode b_Model_claims 92 = .ok (.iload_n 2, 1) := by decide +kernel
theorem d_Model_claims_93 : decode b_Model_claims 93 = .ok (.iconst 2, 1) := by decide +kernel
theorem d_Model_claims_94 : decode b_Model_claims 94 = .ok (.if_icmp .ne 7, 3) := by decide +kernel
theorem d_Model_claims_97 : decode b_Model_claims 97 = .ok (.iconst 1, 1) := by decide +kernel
theorem d_Model_claims_98 : decode b_Model_claims 98 = .ok (.goto 4, 3) := by decide +kernel
theorem d_Model_claims_101 : decode b_Model_claims 101 = .ok (.iconst 2, 1) := by decide +kernel
theorem d_Model_claims_102 : decode b_Model_claims 102 = .ok (.invokevirtual 222, 3) := by decide +kernel
theorem d_Model_claims_105 : decode b_Model_claims 105 = .ok (.istore 4, 2) := by decide +kernel
theorem d_Model_claims_107 : decode b_Model_claims 107 = .ok (.iload 4, 2) := by decide +kernel
theorem d_Model_claims_109 : decode b_Model_claims 109 = .ok (.ifCond .ge 4, 3) := by decide +kernel
theorem d_Model_claims_112 : decode b_Model_claims 112 = .ok (.return_, 1) := by decide +kernel
theorem d_Model_claims_113 : decode b_Model_claims 113 = .ok (.aload_n 0, 1) := by decide +kernel
theorem d_Model_claims_114 : decode b_Model_claims 114 = .ok (.iload_n 1, 1) := by decide +kernel
theorem d_Model_claims_115 : decode b_Model_claims 115 = .ok (.bipush 20, 2) := by decide +kernel
theorem d_Model_claims_117 : decode b_Model_claims 117 = .ok (.iconst 5, 1) := by decide +kernel
theorem d_Model_claims_118 : decode b_Model_claims 118 = .ok (.invokestatic 185, 3) := by decide +kernel
theorem d_Model_claims_121 : decode b_Model_claims 121 = .ok (.invokevirtual 196, 3) := by decide +kernel
theorem d_Model_claims_124 : decode b_Model_claims 124 = .ok (.istore 5, 2) := by decide +kernel
theorem d_Model_claims_126 : decode b_Model_claims 126 = .ok (.aload_n 0, 1) := by decide +kernel
theorem d_Model_claims_127 : decode b_Model_claims 127 = .ok (.iload 4, 2) := by decide +kernel
theorem d_Model_claims_129 : decode b_Model_claims 129 = .ok (.invokevirtual 65, 3) := by decide +kernel
theorem d_Model_claims_132 : decode b_Model_claims 132 = .ok (.istore 6, 2) := by decide +kernel
theorem d_Model_claims_134 : decode b_Model_claims 134 = .ok (.iload 6, 2) := by decide +kernel
theorem d_Model_claims_136 : decode b_Model_claims 136 = .ok (.istore 7, 2) := by decide +kernel
theorem d_Model_claims_138 : decode b_Model_claims 138 = .ok (.iload_n 2, 1) := by decide +kernel
theorem d_Model_claims_139 : decode b_Model_claims 139 = .ok (.iconst 2, 1) := by decide +kernel
theorem d_Model_claims_140 : decode b_Model_claims 140 = .ok (.if_icmp .ne 17, 3) := by decide +kernel
theorem d_Model_claims_143 : decode b_Model_claims 143 = .ok (.aload_n 0, 1) := by decide +kernel
theorem d_Model_claims_144 : decode b_Model_claims 144 = .ok (.getfield 26, 3) := by decide +kernel
theorem d_Model_claims_147 : decode b_Model_claims 147 = .ok (.aload_n 0, 1) := by decide +kernel
theorem d_Model_claims_148 : decode b_Model_claims 148 = .ok (.getfield 87, 3) := by decide +kernel
theorem d_Model_claims_151 : decode b_Model_claims 151 = .ok (.iload 4, 2) := by decide +kernel
theorem d_Model_claims_153 : decode b_Model_claims 153 = .ok (.iastore, 1) := by decide +kernel
theorem d_Model_claims_154 : decode b_Model_claims 154 = .ok (.goto 98, 3) := by decide +kernel
theorem d_Model_claims_157 : decode b_Model_claims 157 = .ok (.iload_n 2, 1) := by decide +kernel
theorem d_Model_claims_158 : decode b_Model_claims 158 = .ok (.iconst 3, 1) := by decide +kernel
theorem d_Model_claims_159 : decode b_Model_claims 159 = .ok (.if_icmp .ne 17, 3) := by decide +kernel
theorem d_Model_claims_162 : decode b_Model_claims 162 = .ok (.aload_n 0, 1) := by decide +kernel
theorem d_Model_claims_163 : decode b_Model_claims 163 = .ok (.getfield 26, 3) := by decide +kernel
theorem d_Model_claims_166 : decode b_Model_claims 166 = .ok (.aload_n 0, 1) := by decide +kernel
theorem d_Model_claims_167 : decode b_Model_claims 167 = .ok (.getfield 87, 3) := by decide +kernel
theorem d_Model_claims_170 : decode b_Model_claims 170 = .ok (.iaload, 1) := by decide +kernel
theorem d_Model_claims_171 : decode b_Model_claims 171 = .ok (.iload 4, 2) := by decide +kernel
theorem d_Model_claims_173 : decode b_Model_claims 173 = .ok (.if_icmp .ne 7, 3) := by decide +kernel
theorem d_Model_claims_176 : decode b_Model_claims 176 = .ok (.iconst 1, 1) := by decide +kernel
theorem d_Model_claims_177 : decode b_Model_claims 177 = .ok (.goto 4, 3) := by decide +kernel
theorem d_Model_claims_180 : decode b_Model_claims 180 = .ok (.iconst 0, 1) := by decide +kernel
theorem d_Model_claims_181 : decode b_Model_claims 181 = .ok (.istore 8, 2) := by decide +kernel
theorem d_Model_claims_183 : decode b_Model_claims 183 = .ok (.iload_n 2, 1) := by decide +kernel
theorem d_Model_claims_184 : decode b_Model_claims 184 = .ok (.iconst 3, 1) := by decide +kernel
theorem d_Model_claims_185 : decode b_Model_claims 185 = .ok (.if_icmp .ne 15, 3) := by decide +kernel
theorem d_Model_claims_188 : decode b_Model_claims 188 = .ok (.iload 8, 2) := by decide +kernel
theorem d_Model_claims_190 : decode b_Model_claims 190 = .ok (.ifCond .eq 7, 3) := by decide +kernel
theorem d_Model_claims_193 : decode b_Model_claims 193 = .ok (.iconst 0, 1) := by decide +kernel
theorem d_Model_claims_194 : decode b_Model_claims 194 = .ok (.goto 4, 3) := by decide +kernel
theorem d_Model_claims_197 : decode b_Model_claims 197 = .ok (.iconst 1, 1) := by decide +kernel
theorem d_Model_claims_198 : decode b_Model_claims 198 = .ok (.istore 7, 2) := by decide +kernel
theorem d_Model_claims_200 : decode b_Model_claims 200 = .ok (.aload_n 0, 1) := by decide +kernel
theorem d_Model_claims_201 : decode b_Model_claims 201 = .ok (.getfield 26, 3) := by decide +kernel
theorem d_Model_claims_204 : decode b_Model_claims 204 = .ok (.aload_n 0, 1) := by decide +kernel
theorem d_Model_claims_205 : decode b_Model_claims 205 = .ok (.getfield 87, 3) := by decide +kernel
theorem d_Model_claims_208 : decode b_Model_claims 208 = .ok (.iconst (-1), 1) := by decide +kernel
theorem d_Model_claims_209 : decode b_Model_claims 209 = .ok (.iastore, 1) := by decide +kernel
theorem d_Model_claims_210 : decode b_Model_claims 210 = .ok (.iload 8, 2) := by decide +kernel
theorem d_Model_claims_212 : decode b_Model_claims 212 = .ok (.ifCond .eq 40, 3) := by decide +kernel
theorem d_Model_claims_215 : decode b_Model_claims 215 = .ok (.aload_n 0, 1) := by decide +kernel
theorem d_Model_claims_216 : decode b_Model_claims 216 = .ok (.iload 4, 2) := by decide +kernel
theorem d_Model_claims_218 : decode b_Model_claims 218 = .ok (.iconst 4, 1) := by decide +kernel
theorem d_Model_claims_219 : decode b_Model_claims 219 = .ok (.iload_n 2, 1) := by decide +kernel
theorem d_Model_claims_220 : decode b_Model_claims 220 = .ok (.iconst 3, 1) := by decide +kernel
theorem d_Model_claims_221 : decode b_Model_claims 221 = .ok (.if_icmp .ne 8, 3) := by decide +kernel
theorem d_Model_claims_224 : decode b_Model_claims 224 = .ok (.iload 5, 2) := by decide +kernel
theorem d_Model_claims_226 : decode b_Model_claims 226 = .ok (.goto 11, 3) := by decide +kernel
theorem d_Model_claims_229 : decode b_Model_claims 229 = .ok (.iload_n 2, 1) := by decide +kernel
theorem d_Model_claims_230 : decode b_Model_claims 230 = .ok (.iload 6, 2) := by decide +kernel
theorem d_Model_claims_232 : decode b_Model_claims 232 = .ok (.iload 5, 2) := by decide +kernel
theorem d_Model_claims_234 : decode b_Model_claims 234 = .ok (.invokestatic 225, 3) := by decide +kernel
theorem d_Model_claims_237 : decode b_Model_claims 237 = .ok (.invokevirtual 61, 3) := by decide +kernel
theorem d_Model_claims_240 : decode b_Model_claims 240 = .ok (.aload_n 0, 1) := by decide +kernel
theorem d_Model_claims_241 : decode b_Model_claims 241 = .ok (.getfield 26, 3) := by decide +kernel
theorem d_Model_claims_244 : decode b_Model_claims 244 = .ok (.iconst 1, 1) := by decide +kernel
theorem d_Model_claims_245 : decode b_Model_claims 245 = .ok (.aload_n 0, 1) := by decide +kernel
theorem d_Model_claims_246 : decode b_Model_claims 246 = .ok (.getfield 87, 3) := by decide +kernel
theorem d_Model_claims_249 : decode b_Model_claims 249 = .ok (.isub, 1) := by decide +kernel
theorem d_Model_claims_250 : decode b_Model_claims 250 = .ok (.iconst (-1), 1) := by decide +kernel
theorem d_Model_claims_251 : decode b_Model_claims 251 = .ok (.iastore, 1) := by decide +kernel
theorem d_Model_claims_252 : decode b_Model_claims 252 = .ok (.aload_n 0, 1) := by decide +kernel
theorem d_Model_claims_253 : decode b_Model_claims 253 = .ok (.iload_n 1, 1) := by decide +kernel
theorem d_Model_claims_254 : decode b_Model_claims 254 = .ok (.bipush 7, 2) := by decide +kernel
theorem d_Model_claims_256 : decode b_Model_claims 256 = .ok (.iconst 5, 1) := by decide +kernel
theorem d_Model_claims_257 : decode b_Model_claims 257 = .ok (.invokestatic 185, 3) := by decide +kernel
theorem d_Model_claims_260 : decode b_Model_claims 260 = .ok (.iload 7, 2) := by decide +kernel
theorem d_Model_claims_262 : decode b_Model_claims 262 = .ok (.invokevirtual 193, 3) := by decide +kernel
theorem d_Model_claims_265 : decode b_Model_claims 265 = .ok (.return_, 1) := by decide +kernel
theorem d_Model_machine_0 : decode b_Model_machine 0 = .ok (.aload_n 0, 1) := by decide +kernel
theorem d_Model_machine_1 : decode b_Model_machine 1 = .ok (.getfield 20, 3) := by decide +kernel
theorem d_Model_machine_4 : decode b_Model_machine 4 = .ok (.aload_n 0, 1) := by decide +kernel
theorem d_Model_machine_5 : decode b_Model_machine 5 = .ok (.getfield 87, 3) := by decide +kernel
theorem d_Model_machine_8 : decode b_Model_machine 8 = .ok (.iaload, 1) := by decide +kernel
theorem d_Model_machine_9 : decode b_Model_machine 9 = .ok (.istore_n 2, 1) := by decide +kernel
theorem d_Model_machine_10 : decode b_Model_machine 10 = .ok (.aload_n 0, 1) := by decide +kernel
theorem d_Model_machine_11 : decode b_Model_machine 11 = .ok (.aload_n 0, 1) := by decide +kernel
theorem d_Model_machine_12 : decode b_Model_machine 12 = .ok (.getfield 87, 3) := by decide +kernel
theorem d_Model_machine_15 : decode b_Model_machine 15 = .ok (.sipush 768, 3) := by decide +kernel
theorem d_Model_machine_18 : decode b_Model_machine 18 = .ok (.invokevirtual 71, 3) := by decide +kernel
theorem d_Model_machine_21 : decode b_Model_machine 21 = .ok (.istore_n 3, 1) := by decide +kernel
theorem d_Model_machine_22 : decode b_Model_machine 22 = .ok (.iload_n 1, 1) := by decide +kernel
theorem d_Model_machine_23 : decode b_Model_machine 23 = .ok (.bipush 115, 2) := by decide +kernel
theorem d_Model_machine_25 : decode b_Model_machine 25 = .ok (.if_icmp .ne 15, 3) := by decide +kernel
theorem d_Model_machine_28 : decode b_Model_machine 28 = .ok (.aload_n 0, 1) := by decide +kernel
theorem d_Model_machine_29 : decode b_Model_machine 29 = .ok (.bipush 8, 2) := by decide +kernel
theorem d_Model_machine_31 : decode b_Model_machine 31 = .ok (.iload_n 2, 1) := by decide +kernel
theorem d_Model_machine_32 : decode b_Model_machine 32 = .ok (.iadd, 1) := by decide +kernel
theorem d_Model_machine_33 : decode b_Model_machine 33 = .ok (.iconst 0, 1) := by decide +kernel
theorem d_Model_machine_34 : decode b_Model_machine 34 = .ok (.invokevirtual 127, 3) := by decide +kernel
theorem d_Model_machine_37 : decode b_Model_machine 37 = .ok (.goto 222, 3) := by decide +kernel
theorem d_Model_machine_40 : decode b_Model_machine 40 = .ok (.iload_n 1, 1) := by decide +kernel
theorem d_Model_machine_41 : decode b_Model_machine 41 = .ok (.ldc 228, 2) := by decide +kernel
theorem d_Model_machine_43 : decode b_Model_machine 43 = .ok (.if_icmp .ne 20, 3) := by decide +kernel
theorem d_Model_machine_46 : decode b_Model_machine 46 = .ok (.aload_n 0, 1) := by decide +kernel
theorem d_Model_machine_47 : decode b_Model_machine 47 = .ok (.iconst 3, 1) := by decide +kernel
theorem d_Model_machine_48 : decode b_Model_machine 48 = .ok (.aload_n 0, 1) := by decide +kernel
theorem d_Model_machine_49 : decode b_Model_machine 49 = .ok (.getfield 17, 3) := by decide +kernel
theorem d_Model_machine_52 : decode b_Model_machine 52 = .ok (.aload_n 0, 1) := by decide +kernel
theorem d_Model_machine_53 : decode b_Model_machine 53 = .ok (.getfield 87, 3) := by decide +kernel
theorem d_Model_machine_56 : decode b_Model_machine 56 = .ok (.iaload, 1) := by decide +kernel
theorem d_Model_machine_57 : decode b_Model_machine 57 = .ok (.invokevirtual 127, 3) := by decide +kernel
theorem d_Model_machine_60 : decode b_Model_machine 60 = .ok (.goto 199, 3) := by decide +kernel
theorem d_Model_machine_63 : decode b_Model_machine 63 = .ok (.iload_n 1, 1) := by decide +kernel
theorem d_Model_machine_64 : decode b_Model_machine 64 = .ok (.ldc 229, 2) := by decide +kernel
theorem d_Model_machine_66 : decode b_Model_machine 66 = .ok (.if_icmp .ne 88, 3) := by decide +kernel
theorem d_Model_machine_69 : decode b_Model_machine 69 = .ok (.iload_n 2, 1) := by decide +kernel
theorem d_Model_machine_70 : decode b_Model_machine 70 = .ok (.iconst 3, 1) := by decide +kernel
theorem d_Model_machine_71 : decode b_Model_machine 71 = .ok (.if_icmp .ne 83, 3) := by decide +kernel
theorem d_Model_machine_74 : decode b_Model_machine 74 = .ok (.aload_n 0, 1) := by decide +kernel
theorem d_Model_machine_75 : decode b_Model_machine 75 = .ok (.aload_n 0, 1) := by decide +kernel
theorem d_Model_machine_76 : decode b_Model_machine 76 = .ok (.aload_n 0, 1) := by decide +kernel
theorem d_Model_machine_77 : decode b_Model_machine 77 = .ok (.getfield 87, 3) := by decide +kernel
theorem d_Model_machine_80 : decode b_Model_machine 80 = .ok (.sipush 833, 3) := by decide +kernel
theorem d_Model_machine_83 : decode b_Model_machine 83 = .ok (.invokevirtual 71, 3) := by decide +kernel
theorem d_Model_machine_86 : decode b_Model_machine 86 = .ok (.putfield 182, 3) := by decide +kernel
theorem d_Model_machine_89 : decode b_Model_machine 89 = .ok (.aload_n 0, 1) := by decide +kernel
theorem d_Model_machine_90 : decode b_Model_machine 90 = .ok (.getfield 20, 3) := by decide +kernel
theorem d_Model_machine_93 : decode b_Model_machine 93 = .ok (.aload_n 0, 1) := by decide +kernel
theorem d_Model_machine_94 : decode b_Model_machine 94 = .ok (.getfield 87, 3) := by decide +kernel
theorem d_Model_machine_97 : decode b_Model_machine 97 = .ok (.iload_n 3, 1) := by decide +kernel
theorem d_Model_machine_98 : decode b_Model_machine 98 = .ok (.bipush 11, 2) := by decide +kernel
theorem d_Model_machine_100 : decode b_Model_machine 100 = .ok (.ishr, 1) := by decide +kernel
theorem d_Model_machine_101 : decode b_Model_machine 101 = .ok (.iconst 3, 1) := by decide +kernel
theorem d_Model_machine_102 : decode b_Model_machine 102 = .ok (.iand, 1) := by decide +kernel
theorem d_Model_machine_103 : decode b_Model_machine 103 = .ok (.iastore, 1) := by decide +kernel
theorem d_Model_machine_104 : decode b_Model_machine 104 = .ok (.aload_n 0, 1) := by decide +kernel
theorem d_Model_machine_105 : decode b_Model_machine 105 = .ok (.aload_n 0, 1) := by decide +kernel
theorem d_Model_machine_106 : decode b_Model_machine 106 = .ok (.getfield 87, 3) := by decide +kernel
theorem d_Model_machine_109 : decode b_Model_machine 109 = .ok (.sipush 768, 3) := by decide +kernel
theorem d_Model_machine_112 : decode b_Model_machine 112 = .ok (.iload_n 3, 1) := by decide +kernel
theorem d_Model_machine_113 : decode b_Model_machine 113 = .ok (.bipush 7, 2) := by decide +kernel
theorem d_Model_machine_115 : decode b_Model_machine 115 = .ok (.ishr, 1) := by decide +kernel
theorem d_Model_machine_116 : decode b_Model_machine 116 = .ok (.iconst 1, 1) := by decide +kernel
theorem d_Model_machine_117 : decode b_Model_machine 117 = .ok (.iand, 1) := by decide +kernel
theorem d_Model_machine_118 : decode b_Model_machine 118 = .ok (.iconst 3, 1) := by decide +kernel
theorem d_Model_machine_119 : decode b_Model_machine 119 = .ok (.ishl, 1) := by decide +kernel
theorem d_Model_machine_120 : decode b_Model_machine 120 = .ok (.sipush 128, 3) := by decide +kernel
theorem d_Model_machine_123 : decode b_Model_machine 123 = .ok (.ior, 1) := by decide +kernel
theorem d_Model_machine_124 : decode b_Model_machine 124 = .ok (.aload_n 0, 1) := by decide +kernel
theorem d_Model_machine_125 : decode b_Model_machine 125 = .ok (.getfield 20, 3) := by decide +kernel
theorem d_Model_machine_128 : decode b_Model_machine 128 = .ok (.aload_n 0, 1) := by decide +kernel
theorem d_Model_machine_129 : decode b_Model_machine 129 = .ok (.getfield 87, 3) := by decide +kernel
theorem d_Model_machine_132 : decode b_Model_machine 132 = .ok (.iaload, 1) := by decide +kernel
theorem d_Model_machine_133 : decode b_Model_machine 133 = .ok (.iconst 3, 1) := by decide +kernel
theorem d_Model_machine_134 : decode b_Model_machine 134 = .ok (.if_icmp .ne 10, 3) := by decide +kernel
theorem d_Model_machine_137 : decode b_Model_machine 137 = .ok (.iload_n 3, 1) := by decide +kernel
theorem d_Model_machine_138 : decode b_Model_machine 138 = .ok (.ldc 80, 2) := by decide +kernel
theorem d_Model_machine_140 : decode b_Model_machine 140 = .ok (.iand, 1) := by decide +kernel
theorem d_Model_machine_141 : decode b_Model_machine 141 = .ok (.goto 4, 3) := by decide +kernel
theorem d_Model_machine_144 : decode b_Model_machine 144 = .ok (.iconst 0, 1) := by decide +kernel
theorem d_Model_machine_145 : decode b_Model_machine 145 = .ok (.ior, 1) := by decide +kernel
theorem d_Model_machine_146 : decode b_Model_machine 146 = .ok (.ldc 230, 2) := by decide +kernel
theorem d_Model_machine_148 : decode b_Model_machine 148 = .ok (.invokevirtual 81, 3) := by decide +kernel
theorem d_Model_machine_151 : decode b_Model_machine 151 = .ok (.goto 108, 3) := by decide +kernel
theorem d_Model_machine_154 : decode b_Model_machine 154 = .ok (.iload_n 1, 1) := by decide +kernel
theorem d_Model_machine_155 : decode b_Model_machine 155 = .ok (.ldc 231, 2) := by decide +kernel
theorem d_Model_machine_157 : decode b_Model_machine 157 = .ok (.if_icmp .ne 63, 3) := by decide +kernel
theorem d_Model_machine_160 : decode b_Model_machine 160 = .ok (.iload_n 2, 1) := by decide +kernel
theorem d_Model_machine_161 : decode b_Model_machine 161 = .ok (.ifCond .le 59, 3) := by decide +kernel
theorem d_Model_machine_164 : decode b_Model_machine 164 = .ok (.aload_n 0, 1) := by decide +kernel
theorem d_Model_machine_165 : decode b_Model_machine 165 = .ok (.aload_n 0, 1) := by decide +kernel
theorem d_Model_machine_166 : decode b_Model_machine 166 = .ok (.aload_n 0, 1) := by decide +kernel
theorem d_Model_machine_167 : decode b_Model_machine 167 = .ok (.getfield 87, 3) := by decide +kernel
theorem d_Model_machine_170 : decode b_Model_machine 170 = .ok (.sipush 321, 3) := by decide +kernel
theorem d_Model_machine_173 : decode b_Model_machine 173 = .ok (.invokevirtual 71, 3) := by decide +kernel
theorem d_Model_machine_176 : decode b_Model_machine 176 = .ok (.putfield 182, 3) := by decide +kernel
theorem d_Model_machine_179 : decode b_Model_machine 179 = .ok (.aload_n 0, 1) := by decide +kernel
theorem d_Model_machine_180 : decode b_Model_machine 180 = .ok (.getfield 20, 3) := by decide +kernel
theorem d_Model_machine_183 : decode b_Model_machine 183 = .ok (.aload_n 0, 1) := by decide +kernel
theorem d_Model_machine_184 : decode b_Model_machine 184 = .ok (.getfield 87, 3) := by decide +kernel
theorem d_Model_machine_187 : decode b_Model_machine 187 = .ok (.iload_n 3, 1) := by decide +kernel
theorem d_Model_machine_188 : decode b_Model_machine 188 = .ok (.bipush 8, 2) := by decide +kernel
theorem d_Model_machine_190 : decode b_Model_machine 190 = .ok (.ishr, 1) := by decide +kernel
theorem d_Model_machine_191 : decode b_Model_machine 191 = .ok (.iconst 1, 1) := by decide +kernel
theorem d_Model_machine_192 : decode b_Model_machine 192 = .ok (.iand, 1) := by decide +kernel
theorem d_Model_machine_193 : decode b_Model_machine 193 = .ok (.iastore, 1) := by decide +kernel
theorem d_Model_machine_194 : decode b_Model_machine 194 = .ok (.aload_n 0, 1) := by decide +kernel
theorem d_Model_machine_195 : decode b_Model_machine 195 = .ok (.aload_n 0, 1) := by decide +kernel
theorem d_Model_machine_196 : decode b_Model_machine 196 = .ok (.getfield 87, 3) := by decide +kernel
theorem d_Model_machine_199 : decode b_Model_machine 199 = .ok (.sipush 768, 3) := by decide +kernel
theorem d_Model_machine_202 : decode b_Model_machine 202 = .ok (.iload_n 3, 1) := by decide +kernel
theorem d_Model_machine_203 : decode b_Model_machine 203 = .ok (.iconst 5, 1) := by decide +kernel
theorem d_Model_machine_204 : decode b_Model_machine 204 = .ok (.ishr, 1) := by decide +kernel
theorem d_Model_machine_205 : decode b_Model_machine 205 = .ok (.iconst 1, 1) := by decide +kernel
theorem d_Model_machine_206 : decode b_Model_machine 206 = .ok (.iand, 1) := by decide +kernel
theorem d_Model_machine_207 : decode b_Model_machine 207 = .ok (.iconst 1, 1) := by decide +kernel
theorem d_Model_machine_208 : decode b_Model_machine 208 = .ok (.ishl, 1) := by decide +kernel
theorem d_Model_machine_209 : decode b_Model_machine 209 = .ok (.bipush 32, 2) := by decide +kernel
theorem d_Model_machine_211 : decode b_Model_machine 211 = .ok (.ior, 1) := by decide +kernel
theorem d_Model_machine_212 : decode b_Model_machine 212 = .ok (.ldc 232, 2) := by decide +kernel
theorem d_Model_machine_214 : decode b_Model_machine 214 = .ok (.invokevirtual 81, 3) := by decide +kernel
theorem d_Model_machine_217 : decode b_Model_machine 217 = .ok (.goto 42, 3) := by decide +kernel
theorem d_Model_machine_220 : decode b_Model_machine 220 = .ok (.iload_n 1, 1) := by decide +kernel
theorem d_Model_machine_221 : decode b_Model_machine 221 = .ok (.ldc 233, 2) := by decide +kernel
theorem d_Model_machine_223 : decode b_Model_machine 223 = .ok (.if_icmp .eq 36, 3) := by decide +kernel
theorem d_Model_machine_226 : decode b_Model_machine 226 = .ok (.iload_n 1, 1) := by decide +kernel
theorem d_Model_machine_227 : decode b_Model_machine 227 = .ok (.bipush 25, 2) := by decide +kernel
theorem d_Model_machine_229 : decode b_Model_machine 229 = .ok (.bipush 7, 2) := by decide +kernel
theorem d_Model_machine_231 : decode b_Model_machine 231 = .ok (.invokestatic 185, 3) := by decide +kernel
theorem d_Model_machine_234 : decode b_Model_machine 234 = .ok (.bipush 9, 2) := by decide +kernel
theorem d_Model_machine_236 : decode b_Model_machine 236 = .ok (.if_icmp .ne 17, 3) := by decide +kernel
theorem d_Model_machine_239 : decode b_Model_machine 239 = .ok (.iload_n 1, 1) := by decide +kernel
theorem d_Model_machine_240 : decode b_Model_machine 240 = .ok (.bipush 7, 2) := by decide +kernel
theorem d_Model_machine_242 : decode b_Model_machine 242 = .ok (.iconst 5, 1) := by decide +kernel
theorem d_Model_machine_243 : decode b_Model_machine 243 = .ok (.invokestatic 185, 3) := by decide +kernel
theorem d_Model_machine_246 : decode b_Model_machine 246 = .ok (.ifCond .ne 7, 3) := by decide +kernel
theorem d_Model_machine_249 : decode b_Model_machine 249 = .ok (.iload_n 2, 1) := by decide +kernel
theorem d_Model_machine_250 : decode b_Model_machine 250 = .ok (.ifCond .ne 9, 3) := by decide +kernel
theorem d_Model_machine_253 : decode b_Model_machine 253 = .ok (.aload_n 0, 1) := by decide +kernel
theorem d_Model_machine_254 : decode b_Model_machine 254 = .ok (.iconst 2, 1) := by decide +kernel
theorem d_Model_machine_255 : decode b_Model_machine 255 = .ok (.iload_n 1, 1) := by decide +kernel
theorem d_Model_machine_256 : decode b_Model_machine 256 = .ok (.invokevirtual 127, 3) := by decide +kernel
theorem d_Model_machine_259 : decode b_Model_machine 259 = .ok (.return_, 1) := by decide +kernel
theorem d_Model_csrs_0 : decode b_Model_csrs 0 = .ok (.iload_n 1, 1) := by decide +kernel
theorem d_Model_csrs_1 : decode b_Model_csrs 1 = .ok (.bipush 12, 2) := by decide +kernel
theorem d_Model_csrs_3 : decode b_Model_csrs 3 = .ok (.iconst 3, 1) := by decide +kernel
theorem d_Model_csrs_4 : decode b_Model_csrs 4 = .ok (.invokestatic 185, 3) := by decide +kernel
theorem d_Model_csrs_7 : decode b_Model_csrs 7 = .ok (.istore_n 2, 1) := by decide +kernel
theorem d_Model_csrs_8 : decode b_Model_csrs 8 = .ok (.iload_n 1, 1) := by decide +kernel
theorem d_Model_csrs_9 : decode b_Model_csrs 9 = .ok (.bipush 20, 2) := by decide +kernel
theorem d_Model_csrs_11 : decode b_Model_csrs 11 = .ok (.bipush 12, 2) := by decide +kernel
theorem d_Model_csrs_13 : decode b_Model_csrs 13 = .ok (.invokestatic 185, 3) := by decide +kernel
theorem d_Model_csrs_16 : decode b_Model_csrs 16 = .ok (.istore_n 3, 1) := by decide +kernel
theorem d_Model_csrs_17 : decode b_Model_csrs 17 = .ok (.iload_n 1, 1) := by decide +kernel
theorem d_Model_csrs_18 : decode b_Model_csrs 18 = .ok (.bipush 15, 2) := by decide +kernel
theorem d_Model_csrs_20 : decode b_Model_csrs 20 = .ok (.iconst 5, 1) := by decide +kernel
theorem d_Model_csrs_21 : decode b_Model_csrs 21 = .ok (.invokestatic 185, 3) := by decide +kernel
theorem d_Model_csrs_24 : decode b_Model_csrs 24 = .ok (.istore 4, 2) := by decide +kernel
theorem d_Model_csrs_26 : decode b_Model_csrs 26 = .ok (.iload_n 2, 1) := by decide +kernel
theorem d_Model_csrs_27 : decode b_Model_csrs 27 = .ok (.iconst 3, 1) := by decide +kernel
theorem d_Model_csrs_28 : decode b_Model_csrs 28 = .ok (.iand, 1) := by decide +kernel
theorem d_Model_csrs_29 : decode b_Model_csrs 29 = .ok (.iconst 1, 1) := by decide +kernel
theorem d_Model_csrs_30 : decode b_Model_csrs 30 = .ok (.if_icmp .eq 8, 3) := by decide +kernel
theorem d_Model_csrs_33 : decode b_Model_csrs 33 = .ok (.iload 4, 2) := by decide +kernel
theorem d_Model_csrs_35 : decode b_Model_csrs 35 = .ok (.ifCond .eq 7, 3) := by decide +kernel
theorem d_Model_csrs_38 : decode b_Model_csrs 38 = .ok (.iconst 1, 1) := by decide +kernel
theorem d_Model_csrs_39 : decode b_Model_csrs 39 = .ok (.goto 4, 3) := by decide +kernel
theorem d_Model_csrs_42 : decode b_Model_csrs 42 = .ok (.iconst 0, 1) := by decide +kernel
theorem d_Model_csrs_43 : decode b_Model_csrs 43 = .ok (.istore 5, 2) := by decide +kernel
theorem d_Model_csrs_45 : decode b_Model_csrs 45 = .ok (.iload_n 2, 1) := by decide +kernel
theorem d_Model_csrs_46 : decode b_Model_csrs 46 = .ok (.iconst 4, 1) := by decide +kernel
theorem d_Model_csrs_47 : decode b_Model_csrs 47 = .ok (.if_icmp .eq 41, 3) := by decide +kernel
theorem d_Model_csrs_50 : decode b_Model_csrs 50 = .ok (.iload_n 3, 1) := by decide +kernel
theorem d_Model_csrs_51 : decode b_Model_csrs 51 = .ok (.invokestatic 234, 3) := by decide +kernel
theorem d_Model_csrs_54 : decode b_Model_csrs 54 = .ok (.ifCond .eq 34, 3) := by decide +kernel
theorem d_Model_csrs_57 : decode b_Model_csrs 57 = .ok (.aload_n 0, 1) := by decide +kernel
theorem d_Model_csrs_58 : decode b_Model_csrs 58 = .ok (.getfield 20, 3) := by decide +kernel
theorem d_Model_csrs_61 : decode b_Model_csrs 61 = .ok (.aload_n 0, 1) := by decide +kernel
theorem d_Model_csrs_62 : decode b_Model_csrs 62 = .ok (.getfield 87, 3) := by decide +kernel
theorem d_Model_csrs_65 : decode b_Model_csrs 65 = .ok (.iaload, 1) := by decide +kernel
theorem d_Model_csrs_66 : decode b_Model_csrs 66 = .ok (.iload_n 3, 1) := by decide +kernel
theorem d_Model_csrs_67 : decode b_Model_csrs 67 = .ok (.bipush 8, 2) := by decide +kernel
theorem d_Model_csrs_69 : decode b_Model_csrs 69 = .ok (.ishr, 1) := by decide +kernel
theorem d_Model_csrs_70 : decode b_Model_csrs 70 = .ok (.iconst 3, 1) := by decide +kernel
theorem d_Model_csrs_71 : decode b_Model_csrs 71 = .ok (.iand, 1) := by decide +kernel
theorem d_Model_csrs_72 : decode b_Model_csrs 72 = .ok (.if_icmp .lt 16, 3) := by decide +kernel
theorem d_Model_csrs_75 : decode b_Model_csrs 75 = .ok (.iload 5, 2) := by decide +kernel
theorem d_Model_csrs_77 : decode b_Model_csrs 77 = .ok (.ifCond .eq 18, 3) := by decide +kernel
theorem d_Model_csrs_80 : decode b_Model_csrs 80 = .ok (.iload_n 3, 1) := by decide +kernel
theorem d_Model_csrs_81 : decode b_Model_csrs 81 = .ok (.bipush 10, 2) := by decide +kernel
theorem d_Model_csrs_83 : decode b_Model_csrs 83 = .ok (.ishr, 1) := by decide +kernel
theorem d_Model_csrs_84 : decode b_Model_csrs 84 = .ok (.iconst 3, 1) := by decide +kernel
theorem d_Model_csrs_85 : decode b_Model_csrs 85 = .ok (.if_icmp .ne 10, 3) := by decide +kernel
theorem d_Model_csrs_88 : decode b_Model_csrs 88 = .ok (.aload_n 0, 1) := by decide +kernel
theorem d_Model_csrs_89 : decode b_Model_csrs 89 = .ok (.iconst 2, 1) := by decide +kernel
theorem d_Model_csrs_90 : decode b_Model_csrs 90 = .ok (.iload_n 1, 1) := by decide +kernel
theorem d_Model_csrs_91 : decode b_Model_csrs 91 = .ok (.invokevirtual 127, 3) := by decide +kernel
theorem d_Model_csrs_94 : decode b_Model_csrs 94 = .ok (.return_, 1) := by decide +kernel
theorem d_Model_csrs_95 : decode b_Model_csrs 95 = .ok (.iload_n 2, 1) := by decide +kernel
theorem d_Model_csrs_96 : decode b_Model_csrs 96 = .ok (.iconst 4, 1) := by decide +kernel
theorem d_Model_csrs_97 : decode b_Model_csrs 97 = .ok (.if_icmp .le 8, 3) := by decide +kernel
theorem d_Model_csrs_100 : decode b_Model_csrs 100 = .ok (.iload 4, 2) := by decide +kernel
theorem d_Model_csrs_102 : decode b_Model_csrs 102 = .ok (.goto 9, 3) := by decide +kernel
theorem d_Model_csrs_105 : decode b_Model_csrs 105 = .ok (.aload_n 0, 1) := by decide +kernel
theorem d_Model_csrs_106 : decode b_Model_csrs 106 = .ok (.iload 4, 2) := by decide +kernel
theorem d_Model_csrs_108 : decode b_Model_csrs 108 = .ok (.invokevirtual 196, 3) := by decide +kernel
theorem d_Model_csrs_111 : decode b_Model_csrs 111 = .ok (.istore 6, 2) := by decide +kernel
theorem d_Model_csrs_113 : decode b_Model_csrs 113 = .ok (.aload_n 0, 1) := by decide +kernel
theorem d_Model_csrs_114 : decode b_Model_csrs 114 = .ok (.aload_n 0, 1) := by decide +kernel
theorem d_Model_csrs_115 : decode b_Model_csrs 115 = .ok (.getfield 87, 3) := by decide +kernel
theorem d_Model_csrs_118 : decode b_Model_csrs 118 = .ok (.iload_n 3, 1) := by decide +kernel
theorem d_Model_csrs_119 : decode b_Model_csrs 119 = .ok (.invokevirtual 96, 3) := by decide +kernel
theorem d_Model_csrs_122 : decode b_Model_csrs 122 = .ok (.istore 7, 2) := by decide +kernel
theorem d_Model_csrs_124 : decode b_Model_csrs 124 = .ok (.iload 5, 2) := by decide +kernel
theorem d_Model_csrs_126 : decode b_Model_csrs 126 = .ok (.ifCond .eq 46, 3) := by decide +kernel
theorem d_Model_csrs_129 : decode b_Model_csrs 129 = .ok (.aload_n 0, 1) := by decide +kernel
theorem d_Model_csrs_130 : decode b_Model_csrs 130 = .ok (.aload_n 0, 1) := by decide +kernel
theorem d_Model_csrs_131 : decode b_Model_csrs 131 = .ok (.getfield 87, 3) := by decide +kernel
theorem d_Model_csrs_134 : decode b_Model_csrs 134 = .ok (.iload_n 3, 1) := by decide +kernel
theorem d_Model_csrs_135 : decode b_Model_csrs 135 = .ok (.iload_n 2, 1) := by decide +kernel
theorem d_Model_csrs_136 : decode b_Model_csrs 136 = .ok (.iconst 3, 1) := by decide +kernel
theorem d_Model_csrs_137 : decode b_Model_csrs 137 = .ok (.iand, 1) := by decide +kernel
theorem d_Model_csrs_138 : decode b_Model_csrs 138 = .ok (.iconst 1, 1) := by decide +kernel
theorem d_Model_csrs_139 : decode b_Model_csrs 139 = .ok (.if_icmp .ne 8, 3) := by decide +kernel
theorem d_Model_csrs_142 : decode b_Model_csrs 142 = .ok (.iload 6, 2) := by decide +kernel
theorem d_Model_csrs_144 : decode b_Model_csrs 144 = .ok (.goto 25, 3) := by decide +kernel
theorem d_Model_csrs_147 : decode b_Model_csrs 147 = .ok (.iload_n 2, 1) := by decide +kernel
theorem d_Model_csrs_148 : decode b_Model_csrs 148 = .ok (.iconst 3, 1) := by decide +kernel
theorem d_Model_csrs_149 : decode b_Model_csrs 149 = .ok (.iand, 1) := by decide +kernel
theorem d_Model_csrs_150 : decode b_Model_csrs 150 = .ok (.iconst 2, 1) := by decide +kernel
theorem d_Model_csrs_151 : decode b_Model_csrs 151 = .ok (.if_icmp .ne 11, 3) := by decide +kernel
theorem d_Model_csrs_154 : decode b_Model_csrs 154 = .ok (.iload 7, 2) := by decide +kernel
theorem d_Model_csrs_156 : decode b_Model_csrs 156 = .ok (.iload 6, 2) := by decide +kernel
theorem d_Model_csrs_158 : decode b_Model_csrs 158 = .ok (.ior, 1) := by decide +kernel
theorem d_Model_csrs_159 : decode b_Model_csrs 159 = .ok (.goto 10, 3) := by decide +kernel
theorem d_Model_csrs_162 : decode b_Model_csrs 162 = .ok (.iload 7, 2) := by decide +kernel
theorem d_Model_csrs_164 : decode b_Model_csrs 164 = .ok (.iload 6, 2) := by decide +kernel
theorem d_Model_csrs_166 : decode b_Model_csrs 166 = .ok (.iconst (-1), 1) := by decide +kernel
theorem d_Model_csrs_167 : decode b_Model_csrs 167 = .ok (.ixor, 1) := by decide +kernel
theorem d_Model_csrs_168 : decode b_Model_csrs 168 = .ok (.iand, 1) := by decide +kernel
theorem d_Model_csrs_169 : decode b_Model_csrs 169 = .ok (.invokevirtual 237, 3) := by decide +kernel
theorem d_Model_csrs_172 : decode b_Model_csrs 172 = .ok (.aload_n 0, 1) := by decide +kernel
theorem d_Model_csrs_173 : decode b_Model_csrs 173 = .ok (.iload_n 1, 1) := by decide +kernel
theorem d_Model_csrs_174 : decode b_Model_csrs 174 = .ok (.bipush 7, 2) := by decide +kernel
theorem d_Model_csrs_176 : decode b_Model_csrs 176 = .ok (.iconst 5, 1) := by decide +kernel
theorem d_Model_csrs_177 : decode b_Model_csrs 177 = .ok (.invokestatic 185, 3) := by decide +kernel
theorem d_Model_csrs_180 : decode b_Model_csrs 180 = .ok (.iload 7, 2) := by decide +kernel
theorem d_Model_csrs_182 : decode b_Model_csrs 182 = .ok (.invokevirtual 193, 3) := by decide +kernel
theorem d_Model_csrs_185 : decode b_Model_csrs 185 = .ok (.return_, 1) := by decide +kernel
