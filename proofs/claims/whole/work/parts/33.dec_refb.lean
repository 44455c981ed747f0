theorem d_Model_accessFault_0 : decode b_Model_accessFault 0 = .ok (.iload_n 0, 1) := by decide +kernel
theorem d_Model_accessFault_1 : decode b_Model_accessFault 1 = .ok (.ifCond .ne 7, 3) := by decide +kernel
theorem d_Model_accessFault_4 : decode b_Model_accessFault 4 = .ok (.iconst 1, 1) := by decide +kernel
theorem d_Model_accessFault_5 : decode b_Model_accessFault 5 = .ok (.goto 14, 3) := by decide +kernel
theorem d_Model_accessFault_8 : decode b_Model_accessFault 8 = .ok (.iload_n 0, 1) := by decide +kernel
theorem d_Model_accessFault_9 : decode b_Model_accessFault 9 = .ok (.iconst 1, 1) := by decide +kernel
theorem d_Model_accessFault_10 : decode b_Model_accessFault 10 = .ok (.if_icmp .ne 7, 3) := by decide +kernel
theorem d_Model_accessFault_13 : decode b_Model_accessFault 13 = .ok (.iconst 5, 1) := by decide +kernel
theorem d_Model_accessFault_14 : decode b_Model_accessFault 14 = .ok (.goto 5, 3) := by decide +kernel
theorem d_Model_accessFault_17 : decode b_Model_accessFault 17 = .ok (.bipush 7, 2) := by decide +kernel
theorem d_Model_accessFault_19 : decode b_Model_accessFault 19 = .ok (.ireturn, 1) := by decide +kernel
theorem d_Model_pageFault_0 : decode b_Model_pageFault 0 = .ok (.iload_n 0, 1) := by decide +kernel
theorem d_Model_pageFault_1 : decode b_Model_pageFault 1 = .ok (.ifCond .ne 8, 3) := by decide +kernel
theorem d_Model_pageFault_4 : decode b_Model_pageFault 4 = .ok (.bipush 12, 2) := by decide +kernel
theorem d_Model_pageFault_6 : decode b_Model_pageFault 6 = .ok (.goto 15, 3) := by decide +kernel
theorem d_Model_pageFault_9 : decode b_Model_pageFault 9 = .ok (.iload_n 0, 1) := by decide +kernel
theorem d_Model_pageFault_10 : decode b_Model_pageFault 10 = .ok (.iconst 1, 1) := by decide +kernel
theorem d_Model_pageFault_11 : decode b_Model_pageFault 11 = .ok (.if_icmp .ne 8, 3) := by decide +kernel
theorem d_Model_pageFault_14 : decode b_Model_pageFault 14 = .ok (.bipush 13, 2) := by decide +kernel
theorem d_Model_pageFault_16 : decode b_Model_pageFault 16 = .ok (.goto 5, 3) := by decide +kernel
theorem d_Model_pageFault_19 : decode b_Model_pageFault 19 = .ok (.bipush 15, 2) := by decide +kernel
theorem d_Model_pageFault_21 : decode b_Model_pageFault 21 = .ok (.ireturn, 1) := by decide +kernel
theorem d_Model_levelFor_0 : decode b_Model_levelFor 0 = .ok (.iload_n 1, 1) := by decide +kernel
theorem d_Model_levelFor_1 : decode b_Model_levelFor 1 = .ok (.ifCond .eq 44, 3) := by decide +kernel
theorem d_Model_levelFor_4 : decode b_Model_levelFor 4 = .ok (.aload_n 0, 1) := by decide +kernel
theorem d_Model_levelFor_5 : decode b_Model_levelFor 5 = .ok (.getfield 20, 3) := by decide +kernel
theorem d_Model_levelFor_8 : decode b_Model_levelFor 8 = .ok (.aload_n 0, 1) := by decide +kernel
theorem d_Model_levelFor_9 : decode b_Model_levelFor 9 = .ok (.getfield 87, 3) := by decide +kernel
theorem d_Model_levelFor_12 : decode b_Model_levelFor 12 = .ok (.iaload, 1) := by decide +kernel
theorem d_Model_levelFor_13 : decode b_Model_levelFor 13 = .ok (.iconst 3, 1) := by decide +kernel
theorem d_Model_levelFor_14 : decode b_Model_levelFor 14 = .ok (.if_icmp .ne 31, 3) := by decide +kernel
theorem d_Model_levelFor_17 : decode b_Model_levelFor 17 = .ok (.aload_n 0, 1) := by decide +kernel
theorem d_Model_levelFor_18 : decode b_Model_levelFor 18 = .ok (.ldc 80, 2) := by decide +kernel
theorem d_Model_levelFor_20 : decode b_Model_levelFor 20 = .ok (.invokevirtual 102, 3) := by decide +kernel
theorem d_Model_levelFor_23 : decode b_Model_levelFor 23 = .ok (.ifCond .eq 22, 3) := by decide +kernel
theorem d_Model_levelFor_26 : decode b_Model_levelFor 26 = .ok (.aload_n 0, 1) := by decide +kernel
theorem d_Model_levelFor_27 : decode b_Model_levelFor 27 = .ok (.aload_n 0, 1) := by decide +kernel
theorem d_Model_levelFor_28 : decode b_Model_levelFor 28 = .ok (.getfield 87, 3) := by decide +kernel
theorem d_Model_levelFor_31 : decode b_Model_levelFor 31 = .ok (.sipush 768, 3) := by decide +kernel
theorem d_Model_levelFor_34 : decode b_Model_levelFor 34 = .ok (.invokevirtual 71, 3) := by decide +kernel
theorem d_Model_levelFor_37 : decode b_Model_levelFor 37 = .ok (.bipush 11, 2) := by decide +kernel
theorem d_Model_levelFor_39 : decode b_Model_levelFor 39 = .ok (.ishr, 1) := by decide +kernel
theorem d_Model_levelFor_40 : decode b_Model_levelFor 40 = .ok (.iconst 3, 1) := by decide +kernel
theorem d_Model_levelFor_41 : decode b_Model_levelFor 41 = .ok (.iand, 1) := by decide +kernel
theorem d_Model_levelFor_42 : decode b_Model_levelFor 42 = .ok (.goto 12, 3) := by decide +kernel
theorem d_Model_levelFor_45 : decode b_Model_levelFor 45 = .ok (.aload_n 0, 1) := by decide +kernel
theorem d_Model_levelFor_46 : decode b_Model_levelFor 46 = .ok (.getfield 20, 3) := by decide +kernel
theorem d_Model_levelFor_49 : decode b_Model_levelFor 49 = .ok (.aload_n 0, 1) := by decide +kernel
theorem d_Model_levelFor_50 : decode b_Model_levelFor 50 = .ok (.getfield 87, 3) := by decide +kernel
theorem d_Model_levelFor_53 : decode b_Model_levelFor 53 = .ok (.iaload, 1) := by decide +kernel
theorem d_Model_levelFor_54 : decode b_Model_levelFor 54 = .ok (.ireturn, 1) := by decide +kernel
theorem d_Model_isLeaf_0 : decode b_Model_isLeaf 0 = .ok (.iload_n 0, 1) := by decide +kernel
theorem d_Model_isLeaf_1 : decode b_Model_isLeaf 1 = .ok (.bipush 10, 2) := by decide +kernel
theorem d_Model_isLeaf_3 : decode b_Model_isLeaf 3 = .ok (.iand, 1) := by decide +kernel
theorem d_Model_isLeaf_4 : decode b_Model_isLeaf 4 = .ok (.ifCond .eq 7, 3) := by decide +kernel
theorem d_Model_isLeaf_7 : decode b_Model_isLeaf 7 = .ok (.iconst 1, 1) := by decide +kernel
theorem d_Model_isLeaf_8 : decode b_Model_isLeaf 8 = .ok (.goto 4, 3) := by decide +kernel
theorem d_Model_isLeaf_11 : decode b_Model_isLeaf 11 = .ok (.iconst 0, 1) := by decide +kernel
theorem d_Model_isLeaf_12 : decode b_Model_isLeaf 12 = .ok (.ireturn, 1) := by decide +kernel
theorem d_Model_isBad_0 : decode b_Model_isBad 0 = .ok (.iload_n 0, 1) := by decide +kernel
theorem d_Model_isBad_1 : decode b_Model_isBad 1 = .ok (.iconst 1, 1) := by decide +kernel
theorem d_Model_isBad_2 : decode b_Model_isBad 2 = .ok (.iand, 1) := by decide +kernel
theorem d_Model_isBad_3 : decode b_Model_isBad 3 = .ok (.ifCond .eq 11, 3) := by decide +kernel
theorem d_Model_isBad_6 : decode b_Model_isBad 6 = .ok (.iload_n 0, 1) := by decide +kernel
theorem d_Model_isBad_7 : decode b_Model_isBad 7 = .ok (.bipush 6, 2) := by decide +kernel
theorem d_Model_isBad_9 : decode b_Model_isBad 9 = .ok (.iand, 1) := by decide +kernel
theorem d_Model_isBad_10 : decode b_Model_isBad 10 = .ok (.iconst 4, 1) := by decide +kernel
theorem d_Model_isBad_11 : decode b_Model_isBad 11 = .ok (.if_icmp .ne 7, 3) := by decide +kernel
theorem d_Model_isBad_14 : decode b_Model_isBad 14 = .ok (.iconst 1, 1) := by decide +kernel
theorem d_Model_isBad_15 : decode b_Model_isBad 15 = .ok (.goto 4, 3) := by decide +kernel
theorem d_Model_isBad_18 : decode b_Model_isBad 18 = .ok (.iconst 0, 1) := by decide +kernel
theorem d_Model_isBad_19 : decode b_Model_isBad 19 = .ok (.ireturn, 1) := by decide +kernel
theorem d_Model_lets_0 : decode b_Model_lets 0 = .ok (.iload_n 1, 1) := by decide +kernel
theorem d_Model_lets_1 : decode b_Model_lets 1 = .ok (.bipush 16, 2) := by decide +kernel
theorem d_Model_lets_3 : decode b_Model_lets 3 = .ok (.iand, 1) := by decide +kernel
theorem d_Model_lets_4 : decode b_Model_lets 4 = .ok (.ifCond .eq 7, 3) := by decide +kernel
theorem d_Model_lets_7 : decode b_Model_lets 7 = .ok (.iconst 1, 1) := by decide +kernel
theorem d_Model_lets_8 : decode b_Model_lets 8 = .ok (.goto 4, 3) := by decide +kernel
theorem d_Model_lets_11 : decode b_Model_lets 11 = .ok (.iconst 0, 1) := by decide +kernel
theorem d_Model_lets_12 : decode b_Model_lets 12 = .ok (.istore 4, 2) := by decide +kernel
theorem d_Model_lets_14 : decode b_Model_lets 14 = .ok (.iload_n 3, 1) := by decide +kernel
theorem d_Model_lets_15 : decode b_Model_lets 15 = .ok (.ifCond .ne 8, 3) := by decide +kernel
theorem d_Model_lets_18 : decode b_Model_lets 18 = .ok (.iload 4, 2) := by decide +kernel
theorem d_Model_lets_20 : decode b_Model_lets 20 = .ok (.ifCond .eq 26, 3) := by decide +kernel
theorem d_Model_lets_23 : decode b_Model_lets 23 = .ok (.iload_n 3, 1) := by decide +kernel
theorem d_Model_lets_24 : decode b_Model_lets 24 = .ok (.iconst 1, 1) := by decide +kernel
theorem d_Model_lets_25 : decode b_Model_lets 25 = .ok (.if_icmp .ne 23, 3) := by decide +kernel
theorem d_Model_lets_28 : decode b_Model_lets 28 = .ok (.iload 4, 2) := by decide +kernel
theorem d_Model_lets_30 : decode b_Model_lets 30 = .ok (.ifCond .eq 18, 3) := by decide +kernel
theorem d_Model_lets_33 : decode b_Model_lets 33 = .ok (.iload_n 2, 1) := by decide +kernel
theorem d_Model_lets_34 : decode b_Model_lets 34 = .ok (.ifCond .eq 12, 3) := by decide +kernel
theorem d_Model_lets_37 : decode b_Model_lets 37 = .ok (.aload_n 0, 1) := by decide +kernel
theorem d_Model_lets_38 : decode b_Model_lets 38 = .ok (.ldc 110, 2) := by decide +kernel
theorem d_Model_lets_40 : decode b_Model_lets 40 = .ok (.invokevirtual 102, 3) := by decide +kernel
theorem d_Model_lets_43 : decode b_Model_lets 43 = .ok (.ifCond .ne 5, 3) := by decide +kernel
theorem d_Model_lets_46 : decode b_Model_lets 46 = .ok (.iconst 0, 1) := by decide +kernel
theorem d_Model_lets_47 : decode b_Model_lets 47 = .ok (.ireturn, 1) := by decide +kernel
theorem d_Model_lets_48 : decode b_Model_lets 48 = .ok (.iload_n 2, 1) := by decide +kernel
theorem d_Model_lets_49 : decode b_Model_lets 49 = .ok (.ifCond .ne 18, 3) := by decide +kernel
theorem d_Model_lets_52 : decode b_Model_lets 52 = .ok (.iload_n 1, 1) := by decide +kernel
theorem d_Model_lets_53 : decode b_Model_lets 53 = .ok (.bipush 8, 2) := by decide +kernel
theorem d_Model_lets_55 : decode b_Model_lets 55 = .ok (.iand, 1) := by decide +kernel
theorem d_Model_lets_56 : decode b_Model_lets 56 = .ok (.ifCond .eq 7, 3) := by decide +kernel
theorem d_Model_lets_59 : decode b_Model_lets 59 = .ok (.iconst 1, 1) := by decide +kernel
theorem d_Model_lets_60 : decode b_Model_lets 60 = .ok (.goto 53, 3) := by decide +kernel
theorem d_Model_lets_63 : decode b_Model_lets 63 = .ok (.iconst 0, 1) := by decide +kernel
theorem d_Model_lets_64 : decode b_Model_lets 64 = .ok (.goto 49, 3) := by decide +kernel
theorem d_Model_lets_67 : decode b_Model_lets 67 = .ok (.iload_n 2, 1) := by decide +kernel
theorem d_Model_lets_68 : decode b_Model_lets 68 = .ok (.iconst 2, 1) := by decide +kernel
theorem d_Model_lets_69 : decode b_Model_lets 69 = .ok (.if_icmp .ne 17, 3) := by decide +kernel
theorem d_Model_lets_72 : decode b_Model_lets 72 = .ok (.iload_n 1, 1) := by decide +kernel
theorem d_Model_lets_73 : decode b_Model_lets 73 = .ok (.iconst 4, 1) := by decide +kernel
theorem d_Model_lets_74 : decode b_Model_lets 74 = .ok (.iand, 1) := by decide +kernel
theorem d_Model_lets_75 : decode b_Model_lets 75 = .ok (.ifCond .eq 7, 3) := by decide +kernel
theorem d_Model_lets_78 : decode b_Model_lets 78 = .ok (.iconst 1, 1) := by decide +kernel
theorem d_Model_lets_79 : decode b_Model_lets 79 = .ok (.goto 34, 3) := by decide +kernel
theorem d_Model_lets_82 : decode b_Model_lets 82 = .ok (.iconst 0, 1) := by decide +kernel
theorem d_Model_lets_83 : decode b_Model_lets 83 = .ok (.goto 30, 3) := by decide +kernel
theorem d_Model_lets_86 : decode b_Model_lets 86 = .ok (.iload_n 1, 1) := by decide +kernel
theorem d_Model_lets_87 : decode b_Model_lets 87 = .ok (.iconst 2, 1) := by decide +kernel
theorem d_Model_lets_88 : decode b_Model_lets 88 = .ok (.iand, 1) := by decide +kernel
theorem d_Model_lets_89 : decode b_Model_lets 89 = .ok (.ifCond .ne 19, 3) := by decide +kernel
theorem d_Model_lets_92 : decode b_Model_lets 92 = .ok (.aload_n 0, 1) := by decide +kernel
theorem d_Model_lets_93 : decode b_Model_lets 93 = .ok (.ldc 111, 2) := by decide +kernel
theorem d_Model_lets_95 : decode b_Model_lets 95 = .ok (.invokevirtual 102, 3) := by decide +kernel
theorem d_Model_lets_98 : decode b_Model_lets 98 = .ok (.ifCond .eq 14, 3) := by decide +kernel
theorem d_Model_lets_101 : decode b_Model_lets 101 = .ok (.iload_n 1, 1) := by decide +kernel
theorem d_Model_lets_102 : decode b_Model_lets 102 = .ok (.bipush 8, 2) := by decide +kernel
theorem d_Model_lets_104 : decode b_Model_lets 104 = .ok (.iand, 1) := by decide +kernel
theorem d_Model_lets_105 : decode b_Model_lets 105 = .ok (.ifCond .eq 7, 3) := by decide +kernel
theorem d_Model_lets_108 : decode b_Model_lets 108 = .ok (.iconst 1, 1) := by decide +kernel
theorem d_Model_lets_109 : decode b_Model_lets 109 = .ok (.goto 4, 3) := by decide +kernel
theorem d_Model_lets_112 : decode b_Model_lets 112 = .ok (.iconst 0, 1) := by decide +kernel
theorem d_Model_lets_113 : decode b_Model_lets 113 = .ok (.istore 5, 2) := by decide +kernel
theorem d_Model_lets_115 : decode b_Model_lets 115 = .ok (.iload 5, 2) := by decide +kernel
theorem d_Model_lets_117 : decode b_Model_lets 117 = .ok (.ifCond .eq 27, 3) := by decide +kernel
theorem d_Model_lets_120 : decode b_Model_lets 120 = .ok (.iload_n 1, 1) := by decide +kernel
theorem d_Model_lets_121 : decode b_Model_lets 121 = .ok (.bipush 64, 2) := by decide +kernel
theorem d_Model_lets_123 : decode b_Model_lets 123 = .ok (.iand, 1) := by decide +kernel
theorem d_Model_lets_124 : decode b_Model_lets 124 = .ok (.ifCond .eq 20, 3) := by decide +kernel
theorem d_Model_lets_127 : decode b_Model_lets 127 = .ok (.iload_n 2, 1) := by decide +kernel
theorem d_Model_lets_128 : decode b_Model_lets 128 = .ok (.iconst 2, 1) := by decide +kernel
theorem d_Model_lets_129 : decode b_Model_lets 129 = .ok (.if_icmp .ne 11, 3) := by decide +kernel
theorem d_Model_lets_132 : decode b_Model_lets 132 = .ok (.iload_n 1, 1) := by decide +kernel
theorem d_Model_lets_133 : decode b_Model_lets 133 = .ok (.sipush 128, 3) := by decide +kernel
theorem d_Model_lets_136 : decode b_Model_lets 136 = .ok (.iand, 1) := by decide +kernel
theorem d_Model_lets_137 : decode b_Model_lets 137 = .ok (.ifCond .eq 7, 3) := by decide +kernel
theorem d_Model_lets_140 : decode b_Model_lets 140 = .ok (.iconst 1, 1) := by decide +kernel
theorem d_Model_lets_141 : decode b_Model_lets 141 = .ok (.goto 4, 3) := by decide +kernel
theorem d_Model_lets_144 : decode b_Model_lets 144 = .ok (.iconst 0, 1) := by decide +kernel
theorem d_Model_lets_145 : decode b_Model_lets 145 = .ok (.ireturn, 1) := by decide +kernel
theorem d_Model_translate_0 : decode b_Model_translate 0 = .ok (.aload_n 0, 1) := by decide +kernel
theorem d_Model_translate_1 : decode b_Model_translate 1 = .ok (.iload_n 2, 1) := by decide +kernel
theorem d_Model_translate_2 : decode b_Model_translate 2 = .ok (.invokevirtual 112, 3) := by decide +kernel
theorem d_Model_translate_5 : decode b_Model_translate 5 = .ok (.istore_n 3, 1) := by decide +kernel
theorem d_Model_translate_6 : decode b_Model_translate 6 = .ok (.iload_n 1, 1) := by decide +kernel
theorem d_Model_translate_7 : decode b_Model_translate 7 = .ok (.i2l, 1) := by decide +kernel
theorem d_Model_translate_8 : decode b_Model_translate 8 = .ok (.ldc2_w 115, 3) := by decide +kernel
theorem d_Model_translate_11 : decode b_Model_translate 11 = .ok (.land, 1) := by decide +kernel
theorem d_Model_translate_12 : decode b_Model_translate 12 = .ok (.lstore 4, 2) := by decide +kernel
theorem d_Model_translate_14 : decode b_Model_translate 14 = .ok (.iload_n 3, 1) := by decide +kernel
theorem d_Model_translate_15 : decode b_Model_translate 15 = .ok (.iconst 3, 1) := by decide +kernel
theorem d_Model_translate_16 : decode b_Model_translate 16 = .ok (.if_icmp .eq 17, 3) := by decide +kernel
theorem d_Model_translate_19 : decode b_Model_translate 19 = .ok (.aload_n 0, 1) := by decide +kernel
theorem d_Model_translate_20 : decode b_Model_translate 20 = .ok (.aload_n 0, 1) := by decide +kernel
theorem d_Model_translate_21 : decode b_Model_translate 21 = .ok (.getfield 87, 3) := by decide +kernel
theorem d_Model_translate_24 : decode b_Model_translate 24 = .ok (.sipush 384, 3) := by decide +kernel
theorem d_Model_translate_27 : decode b_Model_translate 27 = .ok (.invokevirtual 71, 3) := by decide +kernel
theorem d_Model_translate_30 : decode b_Model_translate 30 = .ok (.ifCond .lt 6, 3) := by decide +kernel
theorem d_Model_translate_33 : decode b_Model_translate 33 = .ok (.lload 4, 2) := by decide +kernel
theorem d_Model_translate_35 : decode b_Model_translate 35 = .ok (.lreturn, 1) := by decide +kernel
theorem d_Model_translate_36 : decode b_Model_translate 36 = .ok (.aload_n 0, 1) := by decide +kernel
theorem d_Model_translate_37 : decode b_Model_translate 37 = .ok (.aload_n 0, 1) := by decide +kernel
theorem d_Model_translate_38 : decode b_Model_translate 38 = .ok (.getfield 87, 3) := by decide +kernel
theorem d_Model_translate_41 : decode b_Model_translate 41 = .ok (.sipush 384, 3) := by decide +kernel
theorem d_Model_translate_44 : decode b_Model_translate 44 = .ok (.invokevirtual 71, 3) := by decide +kernel
theorem d_Model_translate_47 : decode b_Model_translate 47 = .ok (.ldc 117, 2) := by decide +kernel
theorem d_Model_translate_49 : decode b_Model_translate 49 = .ok (.iand, 1) := by decide +kernel
theorem d_Model_translate_50 : decode b_Model_translate 50 = .ok (.i2l, 1) := by decide +kernel
theorem d_Model_translate_51 : decode b_Model_translate 51 = .ok (.lstore 6, 2) := by decide +kernel
theorem d_Model_translate_53 : decode b_Model_translate 53 = .ok (.iconst 0, 1) := by decide +kernel
theorem d_Model_translate_54 : decode b_Model_translate 54 = .ok (.istore 8, 2) := by decide +kernel
theorem d_Model_translate_56 : decode b_Model_translate 56 = .ok (.iconst 0, 1) := by decide +kernel
theorem d_Model_translate_57 : decode b_Model_translate 57 = .ok (.istore 9, 2) := by decide +kernel
theorem d_Model_translate_59 : decode b_Model_translate 59 = .ok (.iconst 1, 1) := by decide +kernel
theorem d_Model_translate_60 : decode b_Model_translate 60 = .ok (.istore 10, 2) := by decide +kernel
theorem d_Model_translate_62 : decode b_Model_translate 62 = .ok (.iload 10, 2) := by decide +kernel
theorem d_Model_translate_64 : decode b_Model_translate 64 = .ok (.ifCond .eq 113, 3) := by decide +kernel
theorem d_Model_translate_67 : decode b_Model_translate 67 = .ok (.iload 9, 2) := by decide +kernel
theorem d_Model_translate_69 : decode b_Model_translate 69 = .ok (.ifCond .ne 10, 3) := by decide +kernel
theorem d_Model_translate_72 : decode b_Model_translate 72 = .ok (.iload_n 1, 1) := by decide +kernel
theorem d_Model_translate_73 : decode b_Model_translate 73 = .ok (.bipush 22, 2) := by decide +kernel
theorem d_Model_translate_75 : decode b_Model_translate 75 = .ok (.iushr, 1) := by decide +kernel
theorem d_Model_translate_76 : decode b_Model_translate 76 = .ok (.goto 11, 3) := by decide +kernel
theorem d_Model_translate_79 : decode b_Model_translate 79 = .ok (.iload_n 1, 1) := by decide +kernel
theorem d_Model_translate_80 : decode b_Model_translate 80 = .ok (.bipush 12, 2) := by decide +kernel
theorem d_Model_translate_82 : decode b_Model_translate 82 = .ok (.ishr, 1) := by decide +kernel
theorem d_Model_translate_83 : decode b_Model_translate 83 = .ok (.sipush 1023, 3) := by decide +kernel
theorem d_Model_translate_86 : decode b_Model_translate 86 = .ok (.iand, 1) := by decide +kernel
theorem d_Model_translate_87 : decode b_Model_translate 87 = .ok (.istore 11, 2) := by decide +kernel
theorem d_Model_translate_89 : decode b_Model_translate 89 = .ok (.aload_n 0, 1) := by decide +kernel
theorem d_Model_translate_90 : decode b_Model_translate 90 = .ok (.ldc2_w 118, 3) := by decide +kernel
theorem d_Model_translate_93 : decode b_Model_translate 93 = .ok (.lload 6, 2) := by decide +kernel
theorem d_Model_translate_95 : decode b_Model_translate 95 = .ok (.lmul, 1) := by decide +kernel
theorem d_Model_translate_96 : decode b_Model_translate 96 = .ok (.ldc2_w 59, 3) := by decide +kernel
theorem d_Model_translate_99 : decode b_Model_translate 99 = .ok (.iload 11, 2) := by decide +kernel
theorem d_Model_translate_101 : decode b_Model_translate 101 = .ok (.i2l, 1) := by decide +kernel
theorem d_Model_translate_102 : decode b_Model_translate 102 = .ok (.lmul, 1) := by decide +kernel
theorem d_Model_translate_103 : decode b_Model_translate 103 = .ok (.ladd, 1) := by decide +kernel
theorem d_Model_translate_104 : decode b_Model_translate 104 = .ok (.invokevirtual 120, 3) := by decide +kernel
theorem d_Model_translate_107 : decode b_Model_translate 107 = .ok (.istore 12, 2) := by decide +kernel
theorem d_Model_translate_109 : decode b_Model_translate 109 = .ok (.iload 12, 2) := by decide +kernel
theorem d_Model_translate_111 : decode b_Model_translate 111 = .ok (.ifCond .ge 16, 3) := by decide +kernel
theorem d_Model_translate_114 : decode b_Model_translate 114 = .ok (.aload_n 0, 1) := by decide +kernel
theorem d_Model_translate_115 : decode b_Model_translate 115 = .ok (.iload_n 2, 1) := by decide +kernel
theorem d_Model_translate_116 : decode b_Model_translate 116 = .ok (.invokestatic 124, 3) := by decide +kernel
theorem d_Model_translate_119 : decode b_Model_translate 119 = .ok (.iload_n 1, 1) := by decide +kernel
theorem d_Model_translate_120 : decode b_Model_translate 120 = .ok (.invokevirtual 127, 3) := by decide +kernel
theorem d_Model_translate_123 : decode b_Model_translate 123 = .ok (.ldc2_w 47, 3) := by decide +kernel
theorem d_Model_translate_126 : decode b_Model_translate 126 = .ok (.lreturn, 1) := by decide +kernel
theorem d_Model_translate_127 : decode b_Model_translate 127 = .ok (.aload_n 0, 1) := by decide +kernel
theorem d_Model_translate_128 : decode b_Model_translate 128 = .ok (.iload 12, 2) := by decide +kernel
theorem d_Model_translate_130 : decode b_Model_translate 130 = .ok (.invokevirtual 65, 3) := by decide +kernel
theorem d_Model_translate_133 : decode b_Model_translate 133 = .ok (.istore 8, 2) := by decide +kernel
theorem d_Model_translate_135 : decode b_Model_translate 135 = .ok (.iload 9, 2) := by decide +kernel
theorem d_Model_translate_137 : decode b_Model_translate 137 = .ok (.ifCond .ne 23, 3) := by decide +kernel
theorem d_Model_translate_140 : decode b_Model_translate 140 = .ok (.iload 8, 2) := by decide +kernel
theorem d_Model_translate_142 : decode b_Model_translate 142 = .ok (.invokestatic 131, 3) := by decide +kernel
theorem d_Model_translate_145 : decode b_Model_translate 145 = .ok (.ifCond .ne 15, 3) := by decide +kernel
theorem d_Model_translate_148 : decode b_Model_translate 148 = .ok (.iload 8, 2) := by decide +kernel
theorem d_Model_translate_150 : decode b_Model_translate 150 = .ok (.invokestatic 134, 3) := by decide +kernel
theorem d_Model_translate_153 : decode b_Model_translate 153 = .ok (.ifCond .ne 7, 3) := by decide +kernel
theorem d_Model_translate_156 : decode b_Model_translate 156 = .ok (.iconst 1, 1) := by decide +kernel
theorem d_Model_translate_157 : decode b_Model_translate 157 = .ok (.goto 4, 3) := by decide +kernel
theorem d_Model_translate_160 : decode b_Model_translate 160 = .ok (.iconst 0, 1) := by decide +kernel
theorem d_Model_translate_161 : decode b_Model_translate 161 = .ok (.istore 10, 2) := by decide +kernel
theorem d_Model_translate_163 : decode b_Model_translate 163 = .ok (.iload 8, 2) := by decide +kernel
theorem d_Model_translate_165 : decode b_Model_translate 165 = .ok (.bipush 10, 2) := by decide +kernel
theorem d_Model_translate_167 : decode b_Model_translate 167 = .ok (.iushr, 1) := by decide +kernel
theorem d_Model_translate_168 : decode b_Model_translate 168 = .ok (.i2l, 1) := by decide +kernel
theorem d_Model_translate_169 : decode b_Model_translate 169 = .ok (.lstore 6, 2) := by decide +kernel
theorem d_Model_translate_171 : decode b_Model_translate 171 = .ok (.iinc 9 1, 3) := by decide +kernel
theorem d_Model_translate_174 : decode b_Model_translate 174 = .ok (.goto (-112), 3) := by decide +kernel
theorem d_Model_translate_177 : decode b_Model_translate 177 = .ok (.iload 9, 2) := by decide +kernel
theorem d_Model_translate_179 : decode b_Model_translate 179 = .ok (.iconst 1, 1) := by decide +kernel
theorem d_Model_translate_180 : decode b_Model_translate 180 = .ok (.if_icmp .ne 7, 3) := by decide +kernel
theorem d_Model_translate_183 : decode b_Model_translate 183 = .ok (.iconst 1, 1) := by decide +kernel
theorem d_Model_translate_184 : decode b_Model_translate 184 = .ok (.goto 4, 3) := by decide +kernel
theorem d_Model_translate_187 : decode b_Model_translate 187 = .ok (.iconst 0, 1) := by decide +kernel
theorem d_Model_translate_188 : decode b_Model_translate 188 = .ok (.istore 11, 2) := by decide +kernel
theorem d_Model_translate_190 : decode b_Model_translate 190 = .ok (.iload 8, 2) := by decide +kernel
theorem d_Model_translate_192 : decode b_Model_translate 192 = .ok (.invokestatic 131, 3) := by decide +kernel
theorem d_Model_translate_195 : decode b_Model_translate 195 = .ok (.ifCond .ne 42, 3) := by decide +kernel
theorem d_Model_translate_198 : decode b_Model_translate 198 = .ok (.iload 8, 2) := by decide +kernel
theorem d_Model_translate_200 : decode b_Model_translate 200 = .ok (.invokestatic 134, 3) := by decide +kernel
theorem d_Model_translate_203 : decode b_Model_translate 203 = .ok (.ifCond .eq 34, 3) := by decide +kernel
theorem d_Model_translate_206 : decode b_Model_translate 206 = .ok (.aload_n 0, 1) := by decide +kernel
theorem d_Model_translate_207 : decode b_Model_translate 207 = .ok (.iload 8, 2) := by decide +kernel
theorem d_Model_translate_209 : decode b_Model_translate 209 = .ok (.iload_n 2, 1) := by decide +kernel
theorem d_Model_translate_210 : decode b_Model_translate 210 = .ok (.iload_n 3, 1) := by decide +kernel
theorem d_Model_translate_211 : decode b_Model_translate 211 = .ok (.invokevirtual 137, 3) := by decide +kernel
theorem d_Model_translate_214 : decode b_Model_translate 214 = .ok (.ifCond .eq 23, 3) := by decide +kernel
theorem d_Model_translate_217 : decode b_Model_translate 217 = .ok (.iload 11, 2) := by decide +kernel
theorem d_Model_translate_219 : decode b_Model_translate 219 = .ok (.ifCond .eq 14, 3) := by decide +kernel
theorem d_Model_translate_222 : decode b_Model_translate 222 = .ok (.lload 6, 2) := by decide +kernel
theorem d_Model_translate_224 : decode b_Model_translate 224 = .ok (.ldc2_w 141, 3) := by decide +kernel
theorem d_Model_translate_227 : decode b_Model_translate 227 = .ok (.land, 1) := by decide +kernel
theorem d_Model_translate_228 : decode b_Model_translate 228 = .ok (.lconst 0, 1) := by decide +kernel
theorem d_Model_translate_229 : decode b_Model_translate 229 = .ok (.lcmp, 1) := by decide +kernel
theorem d_Model_translate_230 : decode b_Model_translate 230 = .ok (.ifCond .ne 7, 3) := by decide +kernel
theorem d_Model_translate_233 : decode b_Model_translate 233 = .ok (.iconst 1, 1) := by decide +kernel
theorem d_Model_translate_234 : decode b_Model_translate 234 = .ok (.goto 4, 3) := by decide +kernel
theorem d_Model_translate_237 : decode b_Model_translate 237 = .ok (.iconst 0, 1) := by decide +kernel
theorem d_Model_translate_238 : decode b_Model_translate 238 = .ok (.istore 12, 2) := by decide +kernel
theorem d_Model_translate_240 : decode b_Model_translate 240 = .ok (.iload 12, 2) := by decide +kernel
theorem d_Model_translate_242 : decode b_Model_translate 242 = .ok (.ifCond .ne 16, 3) := by decide +kernel
theorem d_Model_translate_245 : decode b_Model_translate 245 = .ok (.aload_n 0, 1) := by decide +kernel
theorem d_Model_translate_246 : decode b_Model_translate 246 = .ok (.iload_n 2, 1) := by decide +kernel
theorem d_Model_translate_247 : decode b_Model_translate 247 = .ok (.invokestatic 143, 3) := by decide +kernel
theorem d_Model_translate_250 : decode b_Model_translate 250 = .ok (.iload_n 1, 1) := by decide +kernel
theorem d_Model_translate_251 : decode b_Model_translate 251 = .ok (.invokevirtual 127, 3) := by decide +kernel
theorem d_Model_translate_254 : decode b_Model_translate 254 = .ok (.ldc2_w 47, 3) := by decide +kernel
theorem d_Model_translate_257 : decode b_Model_translate 257 = .ok (.lreturn, 1) := by decide +kernel
theorem d_Model_translate_258 : decode b_Model_translate 258 = .ok (.ldc2_w 118, 3) := by decide +kernel
theorem d_Model_translate_261 : decode b_Model_translate 261 = .ok (.lload 6, 2) := by decide +kernel
theorem d_Model_translate_263 : decode b_Model_translate 263 = .ok (.iload 11, 2) := by decide +kernel
theorem d_Model_translate_265 : decode b_Model_translate 265 = .ok (.ifCond .eq 14, 3) := by decide +kernel
theorem d_Model_translate_268 : decode b_Model_translate 268 = .ok (.iload_n 1, 1) := by decide +kernel
theorem d_Model_translate_269 : decode b_Model_translate 269 = .ok (.bipush 12, 2) := by decide +kernel
theorem d_Model_translate_271 : decode b_Model_translate 271 = .ok (.ishr, 1) := by decide +kernel
theorem d_Model_translate_272 : decode b_Model_translate 272 = .ok (.sipush 1023, 3) := by decide +kernel
theorem d_Model_translate_275 : decode b_Model_translate 275 = .ok (.iand, 1) := by decide +kernel
theorem d_Model_translate_276 : decode b_Model_translate 276 = .ok (.goto 4, 3) := by decide +kernel
theorem d_Model_translate_279 : decode b_Model_translate 279 = .ok (.iconst 0, 1) := by decide +kernel
theorem d_Model_translate_280 : decode b_Model_translate 280 = .ok (.i2l, 1) := by decide +kernel
theorem d_Model_translate_281 : decode b_Model_translate 281 = .ok (.ladd, 1) := by decide +kernel
theorem d_Model_translate_282 : decode b_Model_translate 282 = .ok (.lmul, 1) := by decide +kernel
theorem d_Model_translate_283 : decode b_Model_translate 283 = .ok (.iload_n 1, 1) := by decide +kernel
theorem d_Model_translate_284 : decode b_Model_translate 284 = .ok (.sipush 4095, 3) := by decide +kernel
theorem d_Model_translate_287 : decode b_Model_translate 287 = .ok (.iand, 1) := by decide +kernel
theorem d_Model_translate_288 : decode b_Model_translate 288 = .ok (.i2l, 1) := by decide +kernel
theorem d_Model_translate_289 : decode b_Model_translate 289 = .ok (.ladd, 1) := by decide +kernel
theorem d_Model_translate_290 : decode b_Model_translate 290 = .ok (.lstore 13, 2) := by decide +kernel
theorem d_Model_translate_292 : decode b_Model_translate 292 = .ok (.lload 13, 2) := by decide +kernel
theorem d_Model_translate_294 : decode b_Model_translate 294 = .ok (.ldc2_w 115, 3) := by decide +kernel
theorem d_Model_translate_297 : decode b_Model_translate 297 = .ok (.lcmp, 1) := by decide +kernel
theorem d_Model_translate_298 : decode b_Model_translate 298 = .ok (.ifCond .le 16, 3) := by decide +kernel
theorem d_Model_translate_301 : decode b_Model_translate 301 = .ok (.aload_n 0, 1) := by decide +kernel
theorem d_Model_translate_302 : decode b_Model_translate 302 = .ok (.iload_n 2, 1) := by decide +kernel
theorem d_Model_translate_303 : decode b_Model_translate 303 = .ok (.invokestatic 124, 3) := by decide +kernel
theorem d_Model_translate_306 : decode b_Model_translate 306 = .ok (.iload_n 1, 1) := by decide +kernel
theorem d_Model_translate_307 : decode b_Model_translate 307 = .ok (.invokevirtual 127, 3) := by decide +kernel
theorem d_Model_translate_310 : decode b_Model_translate 310 = .ok (.ldc2_w 47, 3) := by decide +kernel
theorem d_Model_translate_313 : decode b_Model_translate 313 = .ok (.lreturn, 1) := by decide +kernel
theorem d_Model_translate_314 : decode b_Model_translate 314 = .ok (.lload 13, 2) := by decide +kernel
theorem d_Model_translate_316 : decode b_Model_translate 316 = .ok (.lreturn, 1) := by decide +kernel
