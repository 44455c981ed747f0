theorem d_Pages_entryPlace_0 : decode b_Pages_entryPlace 0 = .ok (.iload_n 0, 1) := by decide +kernel
theorem d_Pages_entryPlace_1 : decode b_Pages_entryPlace 1 = .ok (.i2l, 1) := by decide +kernel
theorem d_Pages_entryPlace_2 : decode b_Pages_entryPlace 2 = .ok (.bipush 12, 2) := by decide +kernel
theorem d_Pages_entryPlace_4 : decode b_Pages_entryPlace 4 = .ok (.lshl, 1) := by decide +kernel
theorem d_Pages_entryPlace_5 : decode b_Pages_entryPlace 5 = .ok (.ldc2_w 59, 3) := by decide +kernel
theorem d_Pages_entryPlace_8 : decode b_Pages_entryPlace 8 = .ok (.iload_n 1, 1) := by decide +kernel
theorem d_Pages_entryPlace_9 : decode b_Pages_entryPlace 9 = .ok (.i2l, 1) := by decide +kernel
theorem d_Pages_entryPlace_10 : decode b_Pages_entryPlace 10 = .ok (.lmul, 1) := by decide +kernel
theorem d_Pages_entryPlace_11 : decode b_Pages_entryPlace 11 = .ok (.ladd, 1) := by decide +kernel
theorem d_Pages_entryPlace_12 : decode b_Pages_entryPlace 12 = .ok (.lreturn, 1) := by decide +kernel
theorem d_Pages_isPage_0 : decode b_Pages_isPage 0 = .ok (.iload_n 0, 1) := by decide +kernel
theorem d_Pages_isPage_1 : decode b_Pages_isPage 1 = .ok (.bipush 6, 2) := by decide +kernel
theorem d_Pages_isPage_3 : decode b_Pages_isPage 3 = .ok (.iand, 1) := by decide +kernel
theorem d_Pages_isPage_4 : decode b_Pages_isPage 4 = .ok (.iconst 4, 1) := by decide +kernel
theorem d_Pages_isPage_5 : decode b_Pages_isPage 5 = .ok (.if_icmp .ne 7, 3) := by decide +kernel
theorem d_Pages_isPage_8 : decode b_Pages_isPage 8 = .ok (.iconst 1, 1) := by decide +kernel
theorem d_Pages_isPage_9 : decode b_Pages_isPage 9 = .ok (.goto 4, 3) := by decide +kernel
theorem d_Pages_isPage_12 : decode b_Pages_isPage 12 = .ok (.iconst 0, 1) := by decide +kernel
theorem d_Pages_isPage_13 : decode b_Pages_isPage 13 = .ok (.istore_n 1, 1) := by decide +kernel
theorem d_Pages_isPage_14 : decode b_Pages_isPage 14 = .ok (.iload_n 0, 1) := by decide +kernel
theorem d_Pages_isPage_15 : decode b_Pages_isPage 15 = .ok (.iconst 1, 1) := by decide +kernel
theorem d_Pages_isPage_16 : decode b_Pages_isPage 16 = .ok (.iand, 1) := by decide +kernel
theorem d_Pages_isPage_17 : decode b_Pages_isPage 17 = .ok (.ifCond .eq 18, 3) := by decide +kernel
theorem d_Pages_isPage_20 : decode b_Pages_isPage 20 = .ok (.iload_n 0, 1) := by decide +kernel
theorem d_Pages_isPage_21 : decode b_Pages_isPage 21 = .ok (.bipush 10, 2) := by decide +kernel
theorem d_Pages_isPage_23 : decode b_Pages_isPage 23 = .ok (.iand, 1) := by decide +kernel
theorem d_Pages_isPage_24 : decode b_Pages_isPage 24 = .ok (.ifCond .eq 11, 3) := by decide +kernel
theorem d_Pages_isPage_27 : decode b_Pages_isPage 27 = .ok (.iload_n 1, 1) := by decide +kernel
theorem d_Pages_isPage_28 : decode b_Pages_isPage 28 = .ok (.ifCond .ne 7, 3) := by decide +kernel
theorem d_Pages_isPage_31 : decode b_Pages_isPage 31 = .ok (.iconst 1, 1) := by decide +kernel
theorem d_Pages_isPage_32 : decode b_Pages_isPage 32 = .ok (.goto 4, 3) := by decide +kernel
theorem d_Pages_isPage_35 : decode b_Pages_isPage 35 = .ok (.iconst 0, 1) := by decide +kernel
theorem d_Pages_isPage_36 : decode b_Pages_isPage 36 = .ok (.ireturn, 1) := by decide +kernel
theorem d_Pages_admits_0 : decode b_Pages_admits 0 = .ok (.iload_n 0, 1) := by decide +kernel
theorem d_Pages_admits_1 : decode b_Pages_admits 1 = .ok (.bipush 16, 2) := by decide +kernel
theorem d_Pages_admits_3 : decode b_Pages_admits 3 = .ok (.iand, 1) := by decide +kernel
theorem d_Pages_admits_4 : decode b_Pages_admits 4 = .ok (.ifCond .eq 7, 3) := by decide +kernel
theorem d_Pages_admits_7 : decode b_Pages_admits 7 = .ok (.iconst 1, 1) := by decide +kernel
theorem d_Pages_admits_8 : decode b_Pages_admits 8 = .ok (.goto 4, 3) := by decide +kernel
theorem d_Pages_admits_11 : decode b_Pages_admits 11 = .ok (.iconst 0, 1) := by decide +kernel
theorem d_Pages_admits_12 : decode b_Pages_admits 12 = .ok (.istore 4, 2) := by decide +kernel
theorem d_Pages_admits_14 : decode b_Pages_admits 14 = .ok (.iload_n 2, 1) := by decide +kernel
theorem d_Pages_admits_15 : decode b_Pages_admits 15 = .ok (.ifCond .ne 10, 3) := by decide +kernel
theorem d_Pages_admits_18 : decode b_Pages_admits 18 = .ok (.iload 4, 2) := by decide +kernel
theorem d_Pages_admits_20 : decode b_Pages_admits 20 = .ok (.ifCond .ne 5, 3) := by decide +kernel
theorem d_Pages_admits_23 : decode b_Pages_admits 23 = .ok (.iconst 0, 1) := by decide +kernel
theorem d_Pages_admits_24 : decode b_Pages_admits 24 = .ok (.ireturn, 1) := by decide +kernel
theorem d_Pages_admits_25 : decode b_Pages_admits 25 = .ok (.aload_n 1, 1) := by decide +kernel
theorem d_Pages_admits_26 : decode b_Pages_admits 26 = .ok (.getstatic 61, 3) := by decide +kernel
theorem d_Pages_admits_29 : decode b_Pages_admits 29 = .ok (.if_acmp .eq 14, 3) := by decide +kernel
theorem d_Pages_admits_32 : decode b_Pages_admits 32 = .ok (.iload_n 3, 1) := by decide +kernel
theorem d_Pages_admits_33 : decode b_Pages_admits 33 = .ok (.ldc 65, 2) := by decide +kernel
theorem d_Pages_admits_35 : decode b_Pages_admits 35 = .ok (.iand, 1) := by decide +kernel
theorem d_Pages_admits_36 : decode b_Pages_admits 36 = .ok (.ifCond .eq 7, 3) := by decide +kernel
theorem d_Pages_admits_39 : decode b_Pages_admits 39 = .ok (.iconst 1, 1) := by decide +kernel
theorem d_Pages_admits_40 : decode b_Pages_admits 40 = .ok (.goto 4, 3) := by decide +kernel
theorem d_Pages_admits_43 : decode b_Pages_admits 43 = .ok (.iconst 0, 1) := by decide +kernel
theorem d_Pages_admits_44 : decode b_Pages_admits 44 = .ok (.istore 5, 2) := by decide +kernel
theorem d_Pages_admits_46 : decode b_Pages_admits 46 = .ok (.iload_n 2, 1) := by decide +kernel
theorem d_Pages_admits_47 : decode b_Pages_admits 47 = .ok (.iconst 1, 1) := by decide +kernel
theorem d_Pages_admits_48 : decode b_Pages_admits 48 = .ok (.if_icmp .ne 15, 3) := by decide +kernel
theorem d_Pages_admits_51 : decode b_Pages_admits 51 = .ok (.iload 4, 2) := by decide +kernel
theorem d_Pages_admits_53 : decode b_Pages_admits 53 = .ok (.ifCond .eq 10, 3) := by decide +kernel
theorem d_Pages_admits_56 : decode b_Pages_admits 56 = .ok (.iload 5, 2) := by decide +kernel
theorem d_Pages_admits_58 : decode b_Pages_admits 58 = .ok (.ifCond .ne 5, 3) := by decide +kernel
theorem d_Pages_admits_61 : decode b_Pages_admits 61 = .ok (.iconst 0, 1) := by decide +kernel
theorem d_Pages_admits_62 : decode b_Pages_admits 62 = .ok (.ireturn, 1) := by decide +kernel
theorem d_Pages_admits_63 : decode b_Pages_admits 63 = .ok (.aload_n 1, 1) := by decide +kernel
theorem d_Pages_admits_64 : decode b_Pages_admits 64 = .ok (.getfield 66, 3) := by decide +kernel
theorem d_Pages_admits_67 : decode b_Pages_admits 67 = .ok (.ifCond .eq 9, 3) := by decide +kernel
theorem d_Pages_admits_70 : decode b_Pages_admits 70 = .ok (.sipush 196, 3) := by decide +kernel
theorem d_Pages_admits_73 : decode b_Pages_admits 73 = .ok (.goto 5, 3) := by decide +kernel
theorem d_Pages_admits_76 : decode b_Pages_admits 76 = .ok (.bipush 64, 2) := by decide +kernel
theorem d_Pages_admits_78 : decode b_Pages_admits 78 = .ok (.istore 6, 2) := by decide +kernel
theorem d_Pages_admits_80 : decode b_Pages_admits 80 = .ok (.iload_n 0, 1) := by decide +kernel
theorem d_Pages_admits_81 : decode b_Pages_admits 81 = .ok (.iload 6, 2) := by decide +kernel
theorem d_Pages_admits_83 : decode b_Pages_admits 83 = .ok (.iand, 1) := by decide +kernel
theorem d_Pages_admits_84 : decode b_Pages_admits 84 = .ok (.iload 6, 2) := by decide +kernel
theorem d_Pages_admits_86 : decode b_Pages_admits 86 = .ok (.if_icmp .eq 5, 3) := by decide +kernel
theorem d_Pages_admits_89 : decode b_Pages_admits 89 = .ok (.iconst 0, 1) := by decide +kernel
theorem d_Pages_admits_90 : decode b_Pages_admits 90 = .ok (.ireturn, 1) := by decide +kernel
theorem d_Pages_admits_91 : decode b_Pages_admits 91 = .ok (.aload_n 1, 1) := by decide +kernel
theorem d_Pages_admits_92 : decode b_Pages_admits 92 = .ok (.getstatic 61, 3) := by decide +kernel
theorem d_Pages_admits_95 : decode b_Pages_admits 95 = .ok (.if_acmp .ne 16, 3) := by decide +kernel
theorem d_Pages_admits_98 : decode b_Pages_admits 98 = .ok (.iload_n 0, 1) := by decide +kernel
theorem d_Pages_admits_99 : decode b_Pages_admits 99 = .ok (.bipush 8, 2) := by decide +kernel
theorem d_Pages_admits_101 : decode b_Pages_admits 101 = .ok (.iand, 1) := by decide +kernel
theorem d_Pages_admits_102 : decode b_Pages_admits 102 = .ok (.ifCond .eq 7, 3) := by decide +kernel
theorem d_Pages_admits_105 : decode b_Pages_admits 105 = .ok (.iconst 1, 1) := by decide +kernel
theorem d_Pages_admits_106 : decode b_Pages_admits 106 = .ok (.goto 4, 3) := by decide +kernel
theorem d_Pages_admits_109 : decode b_Pages_admits 109 = .ok (.iconst 0, 1) := by decide +kernel
theorem d_Pages_admits_110 : decode b_Pages_admits 110 = .ok (.ireturn, 1) := by decide +kernel
theorem d_Pages_admits_111 : decode b_Pages_admits 111 = .ok (.iload_n 3, 1) := by decide +kernel
theorem d_Pages_admits_112 : decode b_Pages_admits 112 = .ok (.ldc 70, 2) := by decide +kernel
theorem d_Pages_admits_114 : decode b_Pages_admits 114 = .ok (.iand, 1) := by decide +kernel
theorem d_Pages_admits_115 : decode b_Pages_admits 115 = .ok (.ifCond .eq 8, 3) := by decide +kernel
theorem d_Pages_admits_118 : decode b_Pages_admits 118 = .ok (.bipush 10, 2) := by decide +kernel
theorem d_Pages_admits_120 : decode b_Pages_admits 120 = .ok (.goto 4, 3) := by decide +kernel
theorem d_Pages_admits_123 : decode b_Pages_admits 123 = .ok (.iconst 2, 1) := by decide +kernel
theorem d_Pages_admits_124 : decode b_Pages_admits 124 = .ok (.istore 7, 2) := by decide +kernel
theorem d_Pages_admits_126 : decode b_Pages_admits 126 = .ok (.aload_n 1, 1) := by decide +kernel
theorem d_Pages_admits_127 : decode b_Pages_admits 127 = .ok (.getfield 66, 3) := by decide +kernel
theorem d_Pages_admits_130 : decode b_Pages_admits 130 = .ok (.ifCond .ne 10, 3) := by decide +kernel
theorem d_Pages_admits_133 : decode b_Pages_admits 133 = .ok (.iload_n 0, 1) := by decide +kernel
theorem d_Pages_admits_134 : decode b_Pages_admits 134 = .ok (.iload 7, 2) := by decide +kernel
theorem d_Pages_admits_136 : decode b_Pages_admits 136 = .ok (.iand, 1) := by decide +kernel
theorem d_Pages_admits_137 : decode b_Pages_admits 137 = .ok (.ifCond .eq 7, 3) := by decide +kernel
theorem d_Pages_admits_140 : decode b_Pages_admits 140 = .ok (.iconst 1, 1) := by decide +kernel
theorem d_Pages_admits_141 : decode b_Pages_admits 141 = .ok (.goto 4, 3) := by decide +kernel
theorem d_Pages_admits_144 : decode b_Pages_admits 144 = .ok (.iconst 0, 1) := by decide +kernel
theorem d_Pages_admits_145 : decode b_Pages_admits 145 = .ok (.ireturn, 1) := by decide +kernel
theorem d_Pages_placeOf_0 : decode b_Pages_placeOf 0 = .ok (.iload_n 0, 1) := by decide +kernel
theorem d_Pages_placeOf_1 : decode b_Pages_placeOf 1 = .ok (.bipush 12, 2) := by decide +kernel
theorem d_Pages_placeOf_3 : decode b_Pages_placeOf 3 = .ok (.iushr, 1) := by decide +kernel
theorem d_Pages_placeOf_4 : decode b_Pages_placeOf 4 = .ok (.sipush 1023, 3) := by decide +kernel
theorem d_Pages_placeOf_7 : decode b_Pages_placeOf 7 = .ok (.iand, 1) := by decide +kernel
theorem d_Pages_placeOf_8 : decode b_Pages_placeOf 8 = .ok (.istore 5, 2) := by decide +kernel
theorem d_Pages_placeOf_10 : decode b_Pages_placeOf 10 = .ok (.aload_n 3, 1) := by decide +kernel
theorem d_Pages_placeOf_11 : decode b_Pages_placeOf 11 = .ok (.invokevirtual 11, 3) := by decide +kernel
theorem d_Pages_placeOf_14 : decode b_Pages_placeOf 14 = .ok (.iload_n 0, 1) := by decide +kernel
theorem d_Pages_placeOf_15 : decode b_Pages_placeOf 15 = .ok (.bipush 22, 2) := by decide +kernel
theorem d_Pages_placeOf_17 : decode b_Pages_placeOf 17 = .ok (.iushr, 1) := by decide +kernel
theorem d_Pages_placeOf_18 : decode b_Pages_placeOf 18 = .ok (.invokestatic 17, 3) := by decide +kernel
theorem d_Pages_placeOf_21 : decode b_Pages_placeOf 21 = .ok (.lstore 6, 2) := by decide +kernel
theorem d_Pages_placeOf_23 : decode b_Pages_placeOf 23 = .ok (.aload 4, 2) := by decide +kernel
theorem d_Pages_placeOf_25 : decode b_Pages_placeOf 25 = .ok (.lload 6, 2) := by decide +kernel
theorem d_Pages_placeOf_27 : decode b_Pages_placeOf 27 = .ok (.invokevirtual 21, 3) := by decide +kernel
theorem d_Pages_placeOf_30 : decode b_Pages_placeOf 30 = .ok (.ifCond .ne 11, 3) := by decide +kernel
theorem d_Pages_placeOf_33 : decode b_Pages_placeOf 33 = .ok (.aload_n 1, 1) := by decide +kernel
theorem d_Pages_placeOf_34 : decode b_Pages_placeOf 34 = .ok (.getfield 27, 3) := by decide +kernel
theorem d_Pages_placeOf_37 : decode b_Pages_placeOf 37 = .ok (.invokestatic 33, 3) := by decide +kernel
theorem d_Pages_placeOf_40 : decode b_Pages_placeOf 40 = .ok (.lreturn, 1) := by decide +kernel
theorem d_Pages_placeOf_41 : decode b_Pages_placeOf 41 = .ok (.aload 4, 2) := by decide +kernel
theorem d_Pages_placeOf_43 : decode b_Pages_placeOf 43 = .ok (.lload 6, 2) := by decide +kernel
theorem d_Pages_placeOf_45 : decode b_Pages_placeOf 45 = .ok (.invokevirtual 39, 3) := by decide +kernel
theorem d_Pages_placeOf_48 : decode b_Pages_placeOf 48 = .ok (.istore 8, 2) := by decide +kernel
theorem d_Pages_placeOf_50 : decode b_Pages_placeOf 50 = .ok (.iload 5, 2) := by decide +kernel
theorem d_Pages_placeOf_52 : decode b_Pages_placeOf 52 = .ok (.istore 9, 2) := by decide +kernel
theorem d_Pages_placeOf_54 : decode b_Pages_placeOf 54 = .ok (.iload 8, 2) := by decide +kernel
theorem d_Pages_placeOf_56 : decode b_Pages_placeOf 56 = .ok (.bipush 15, 2) := by decide +kernel
theorem d_Pages_placeOf_58 : decode b_Pages_placeOf 58 = .ok (.iand, 1) := by decide +kernel
theorem d_Pages_placeOf_59 : decode b_Pages_placeOf 59 = .ok (.iconst 1, 1) := by decide +kernel
theorem d_Pages_placeOf_60 : decode b_Pages_placeOf 60 = .ok (.if_icmp .ne 48, 3) := by decide +kernel
theorem d_Pages_placeOf_63 : decode b_Pages_placeOf 63 = .ok (.iload 8, 2) := by decide +kernel
theorem d_Pages_placeOf_65 : decode b_Pages_placeOf 65 = .ok (.bipush 10, 2) := by decide +kernel
theorem d_Pages_placeOf_67 : decode b_Pages_placeOf 67 = .ok (.iushr, 1) := by decide +kernel
theorem d_Pages_placeOf_68 : decode b_Pages_placeOf 68 = .ok (.iload 5, 2) := by decide +kernel
theorem d_Pages_placeOf_70 : decode b_Pages_placeOf 70 = .ok (.invokestatic 17, 3) := by decide +kernel
theorem d_Pages_placeOf_73 : decode b_Pages_placeOf 73 = .ok (.lstore 6, 2) := by decide +kernel
theorem d_Pages_placeOf_75 : decode b_Pages_placeOf 75 = .ok (.aload 4, 2) := by decide +kernel
theorem d_Pages_placeOf_77 : decode b_Pages_placeOf 77 = .ok (.lload 6, 2) := by decide +kernel
theorem d_Pages_placeOf_79 : decode b_Pages_placeOf 79 = .ok (.invokevirtual 21, 3) := by decide +kernel
theorem d_Pages_placeOf_82 : decode b_Pages_placeOf 82 = .ok (.ifCond .ne 11, 3) := by decide +kernel
theorem d_Pages_placeOf_85 : decode b_Pages_placeOf 85 = .ok (.aload_n 1, 1) := by decide +kernel
theorem d_Pages_placeOf_86 : decode b_Pages_placeOf 86 = .ok (.getfield 27, 3) := by decide +kernel
theorem d_Pages_placeOf_89 : decode b_Pages_placeOf 89 = .ok (.invokestatic 33, 3) := by decide +kernel
theorem d_Pages_placeOf_92 : decode b_Pages_placeOf 92 = .ok (.lreturn, 1) := by decide +kernel
theorem d_Pages_placeOf_93 : decode b_Pages_placeOf 93 = .ok (.aload 4, 2) := by decide +kernel
theorem d_Pages_placeOf_95 : decode b_Pages_placeOf 95 = .ok (.lload 6, 2) := by decide +kernel
theorem d_Pages_placeOf_97 : decode b_Pages_placeOf 97 = .ok (.invokevirtual 39, 3) := by decide +kernel
theorem d_Pages_placeOf_100 : decode b_Pages_placeOf 100 = .ok (.istore 8, 2) := by decide +kernel
theorem d_Pages_placeOf_102 : decode b_Pages_placeOf 102 = .ok (.iconst 0, 1) := by decide +kernel
theorem d_Pages_placeOf_103 : decode b_Pages_placeOf 103 = .ok (.istore 9, 2) := by decide +kernel
theorem d_Pages_placeOf_105 : decode b_Pages_placeOf 105 = .ok (.goto 23, 3) := by decide +kernel
theorem d_Pages_placeOf_108 : decode b_Pages_placeOf 108 = .ok (.iload 8, 2) := by decide +kernel
theorem d_Pages_placeOf_110 : decode b_Pages_placeOf 110 = .ok (.bipush 10, 2) := by decide +kernel
theorem d_Pages_placeOf_112 : decode b_Pages_placeOf 112 = .ok (.iushr, 1) := by decide +kernel
theorem d_Pages_placeOf_113 : decode b_Pages_placeOf 113 = .ok (.sipush 1023, 3) := by decide +kernel
theorem d_Pages_placeOf_116 : decode b_Pages_placeOf 116 = .ok (.iand, 1) := by decide +kernel
theorem d_Pages_placeOf_117 : decode b_Pages_placeOf 117 = .ok (.ifCond .eq 11, 3) := by decide +kernel
theorem d_Pages_placeOf_120 : decode b_Pages_placeOf 120 = .ok (.aload_n 1, 1) := by decide +kernel
theorem d_Pages_placeOf_121 : decode b_Pages_placeOf 121 = .ok (.getfield 43, 3) := by decide +kernel
theorem d_Pages_placeOf_124 : decode b_Pages_placeOf 124 = .ok (.invokestatic 33, 3) := by decide +kernel
theorem d_Pages_placeOf_127 : decode b_Pages_placeOf 127 = .ok (.lreturn, 1) := by decide +kernel
theorem d_Pages_placeOf_128 : decode b_Pages_placeOf 128 = .ok (.iload 8, 2) := by decide +kernel
theorem d_Pages_placeOf_130 : decode b_Pages_placeOf 130 = .ok (.invokestatic 46, 3) := by decide +kernel
theorem d_Pages_placeOf_133 : decode b_Pages_placeOf 133 = .ok (.ifCond .eq 17, 3) := by decide +kernel
theorem d_Pages_placeOf_136 : decode b_Pages_placeOf 136 = .ok (.iload 8, 2) := by decide +kernel
theorem d_Pages_placeOf_138 : decode b_Pages_placeOf 138 = .ok (.aload_n 1, 1) := by decide +kernel
theorem d_Pages_placeOf_139 : decode b_Pages_placeOf 139 = .ok (.iload_n 2, 1) := by decide +kernel
theorem d_Pages_placeOf_140 : decode b_Pages_placeOf 140 = .ok (.aload_n 3, 1) := by decide +kernel
theorem d_Pages_placeOf_141 : decode b_Pages_placeOf 141 = .ok (.getfield 50, 3) := by decide +kernel
theorem d_Pages_placeOf_144 : decode b_Pages_placeOf 144 = .ok (.invokestatic 53, 3) := by decide +kernel
theorem d_Pages_placeOf_147 : decode b_Pages_placeOf 147 = .ok (.ifCond .ne 11, 3) := by decide +kernel
theorem d_Pages_placeOf_150 : decode b_Pages_placeOf 150 = .ok (.aload_n 1, 1) := by decide +kernel
theorem d_Pages_placeOf_151 : decode b_Pages_placeOf 151 = .ok (.getfield 43, 3) := by decide +kernel
theorem d_Pages_placeOf_154 : decode b_Pages_placeOf 154 = .ok (.invokestatic 33, 3) := by decide +kernel
theorem d_Pages_placeOf_157 : decode b_Pages_placeOf 157 = .ok (.lreturn, 1) := by decide +kernel
theorem d_Pages_placeOf_158 : decode b_Pages_placeOf 158 = .ok (.iload 8, 2) := by decide +kernel
theorem d_Pages_placeOf_160 : decode b_Pages_placeOf 160 = .ok (.bipush 10, 2) := by decide +kernel
theorem d_Pages_placeOf_162 : decode b_Pages_placeOf 162 = .ok (.iushr, 1) := by decide +kernel
theorem d_Pages_placeOf_163 : decode b_Pages_placeOf 163 = .ok (.i2l, 1) := by decide +kernel
theorem d_Pages_placeOf_164 : decode b_Pages_placeOf 164 = .ok (.iload 9, 2) := by decide +kernel
theorem d_Pages_placeOf_166 : decode b_Pages_placeOf 166 = .ok (.i2l, 1) := by decide +kernel
theorem d_Pages_placeOf_167 : decode b_Pages_placeOf 167 = .ok (.ladd, 1) := by decide +kernel
theorem d_Pages_placeOf_168 : decode b_Pages_placeOf 168 = .ok (.bipush 12, 2) := by decide +kernel
theorem d_Pages_placeOf_170 : decode b_Pages_placeOf 170 = .ok (.lshl, 1) := by decide +kernel
theorem d_Pages_placeOf_171 : decode b_Pages_placeOf 171 = .ok (.iload_n 0, 1) := by decide +kernel
theorem d_Pages_placeOf_172 : decode b_Pages_placeOf 172 = .ok (.sipush 4095, 3) := by decide +kernel
theorem d_Pages_placeOf_175 : decode b_Pages_placeOf 175 = .ok (.iand, 1) := by decide +kernel
theorem d_Pages_placeOf_176 : decode b_Pages_placeOf 176 = .ok (.i2l, 1) := by decide +kernel
theorem d_Pages_placeOf_177 : decode b_Pages_placeOf 177 = .ok (.ladd, 1) := by decide +kernel
theorem d_Pages_placeOf_178 : decode b_Pages_placeOf 178 = .ok (.lstore 10, 2) := by decide +kernel
theorem d_Pages_placeOf_180 : decode b_Pages_placeOf 180 = .ok (.lload 10, 2) := by decide +kernel
theorem d_Pages_placeOf_182 : decode b_Pages_placeOf 182 = .ok (.ldc2_w 57, 3) := by decide +kernel
theorem d_Pages_placeOf_185 : decode b_Pages_placeOf 185 = .ok (.lcmp, 1) := by decide +kernel
theorem d_Pages_placeOf_186 : decode b_Pages_placeOf 186 = .ok (.ifCond .le 13, 3) := by decide +kernel
theorem d_Pages_placeOf_189 : decode b_Pages_placeOf 189 = .ok (.aload_n 1, 1) := by decide +kernel
theorem d_Pages_placeOf_190 : decode b_Pages_placeOf 190 = .ok (.getfield 27, 3) := by decide +kernel
theorem d_Pages_placeOf_193 : decode b_Pages_placeOf 193 = .ok (.invokestatic 33, 3) := by decide +kernel
theorem d_Pages_placeOf_196 : decode b_Pages_placeOf 196 = .ok (.goto 5, 3) := by decide +kernel
theorem d_Pages_placeOf_199 : decode b_Pages_placeOf 199 = .ok (.lload 10, 2) := by decide +kernel
theorem d_Pages_placeOf_201 : decode b_Pages_placeOf 201 = .ok (.lreturn, 1) := by decide +kernel
