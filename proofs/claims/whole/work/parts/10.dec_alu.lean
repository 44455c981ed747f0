theorem d_Alu_below_0 : decode b_Alu_below 0 = .ok (.iload_n 0, 1) := by decide +kernel
theorem d_Alu_below_1 : decode b_Alu_below 1 = .ok (.ldc 9, 2) := by decide +kernel
theorem d_Alu_below_3 : decode b_Alu_below 3 = .ok (.ixor, 1) := by decide +kernel
theorem d_Alu_below_4 : decode b_Alu_below 4 = .ok (.iload_n 1, 1) := by decide +kernel
theorem d_Alu_below_5 : decode b_Alu_below 5 = .ok (.ldc 9, 2) := by decide +kernel
theorem d_Alu_below_7 : decode b_Alu_below 7 = .ok (.ixor, 1) := by decide +kernel
theorem d_Alu_below_8 : decode b_Alu_below 8 = .ok (.if_icmp .ge 7, 3) := by decide +kernel
theorem d_Alu_below_11 : decode b_Alu_below 11 = .ok (.iconst 1, 1) := by decide +kernel
theorem d_Alu_below_12 : decode b_Alu_below 12 = .ok (.goto 4, 3) := by decide +kernel
theorem d_Alu_below_15 : decode b_Alu_below 15 = .ok (.iconst 0, 1) := by decide +kernel
theorem d_Alu_below_16 : decode b_Alu_below 16 = .ok (.ireturn, 1) := by decide +kernel
theorem d_Fault_of_0 : decode b_Fault_of 0 = .ok (.ldc2_w 7, 3) := by decide +kernel
theorem d_Fault_of_3 : decode b_Fault_of 3 = .ok (.iload_n 0, 1) := by decide +kernel
theorem d_Fault_of_4 : decode b_Fault_of 4 = .ok (.i2l, 1) := by decide +kernel
theorem d_Fault_of_5 : decode b_Fault_of 5 = .ok (.lsub, 1) := by decide +kernel
theorem d_Fault_of_6 : decode b_Fault_of 6 = .ok (.lreturn, 1) := by decide +kernel
theorem d_Fault_causeOf_0 : decode b_Fault_causeOf 0 = .ok (.ldc2_w 7, 3) := by decide +kernel
theorem d_Fault_causeOf_3 : decode b_Fault_causeOf 3 = .ok (.lload_n 0, 1) := by decide +kernel
theorem d_Fault_causeOf_4 : decode b_Fault_causeOf 4 = .ok (.lsub, 1) := by decide +kernel
theorem d_Fault_causeOf_5 : decode b_Fault_causeOf 5 = .ok (.l2i, 1) := by decide +kernel
theorem d_Fault_causeOf_6 : decode b_Fault_causeOf 6 = .ok (.ireturn, 1) := by decide +kernel
theorem d_Field_f3_0 : decode b_Field_f3 0 = .ok (.iload_n 0, 1) := by decide +kernel
theorem d_Field_f3_1 : decode b_Field_f3 1 = .ok (.bipush 12, 2) := by decide +kernel
theorem d_Field_f3_3 : decode b_Field_f3 3 = .ok (.iushr, 1) := by decide +kernel
theorem d_Field_f3_4 : decode b_Field_f3 4 = .ok (.bipush 7, 2) := by decide +kernel
theorem d_Field_f3_6 : decode b_Field_f3 6 = .ok (.iand, 1) := by decide +kernel
theorem d_Field_f3_7 : decode b_Field_f3 7 = .ok (.ireturn, 1) := by decide +kernel
theorem d_Field_rs1_0 : decode b_Field_rs1 0 = .ok (.iload_n 0, 1) := by decide +kernel
theorem d_Field_rs1_1 : decode b_Field_rs1 1 = .ok (.bipush 15, 2) := by decide +kernel
theorem d_Field_rs1_3 : decode b_Field_rs1 3 = .ok (.iushr, 1) := by decide +kernel
theorem d_Field_rs1_4 : decode b_Field_rs1 4 = .ok (.bipush 31, 2) := by decide +kernel
theorem d_Field_rs1_6 : decode b_Field_rs1 6 = .ok (.iand, 1) := by decide +kernel
theorem d_Field_rs1_7 : decode b_Field_rs1 7 = .ok (.ireturn, 1) := by decide +kernel
theorem d_Field_immediate_0 : decode b_Field_immediate 0 = .ok (.iload_n 0, 1) := by decide +kernel
theorem d_Field_immediate_1 : decode b_Field_immediate 1 = .ok (.bipush 20, 2) := by decide +kernel
theorem d_Field_immediate_3 : decode b_Field_immediate 3 = .ok (.ishr, 1) := by decide +kernel
theorem d_Field_immediate_4 : decode b_Field_immediate 4 = .ok (.ireturn, 1) := by decide +kernel
theorem d_Field_rd_0 : decode b_Field_rd 0 = .ok (.iload_n 0, 1) := by decide +kernel
theorem d_Field_rd_1 : decode b_Field_rd 1 = .ok (.bipush 7, 2) := by decide +kernel
theorem d_Field_rd_3 : decode b_Field_rd 3 = .ok (.iushr, 1) := by decide +kernel
theorem d_Field_rd_4 : decode b_Field_rd 4 = .ok (.bipush 31, 2) := by decide +kernel
theorem d_Field_rd_6 : decode b_Field_rd 6 = .ok (.iand, 1) := by decide +kernel
theorem d_Field_rd_7 : decode b_Field_rd 7 = .ok (.ireturn, 1) := by decide +kernel
theorem d_Field_f7_0 : decode b_Field_f7 0 = .ok (.iload_n 0, 1) := by decide +kernel
theorem d_Field_f7_1 : decode b_Field_f7 1 = .ok (.bipush 25, 2) := by decide +kernel
theorem d_Field_f7_3 : decode b_Field_f7 3 = .ok (.iushr, 1) := by decide +kernel
theorem d_Field_f7_4 : decode b_Field_f7 4 = .ok (.ireturn, 1) := by decide +kernel
theorem d_Field_rs2_0 : decode b_Field_rs2 0 = .ok (.iload_n 0, 1) := by decide +kernel
theorem d_Field_rs2_1 : decode b_Field_rs2 1 = .ok (.bipush 20, 2) := by decide +kernel
theorem d_Field_rs2_3 : decode b_Field_rs2 3 = .ok (.iushr, 1) := by decide +kernel
theorem d_Field_rs2_4 : decode b_Field_rs2 4 = .ok (.bipush 31, 2) := by decide +kernel
theorem d_Field_rs2_6 : decode b_Field_rs2 6 = .ok (.iand, 1) := by decide +kernel
theorem d_Field_rs2_7 : decode b_Field_rs2 7 = .ok (.ireturn, 1) := by decide +kernel
theorem d_Alu_plain_0 : decode b_Alu_plain 0 = .ok (.iload_n 0, 1) := by decide +kernel
theorem d_Alu_plain_1 : decode b_Alu_plain 1 = .ok (.tableswitch 94 0 6 #[43, 47, 54, 65, 79, 83, 90], 43) := by decide +kernel
theorem d_Alu_plain_44 : decode b_Alu_plain 44 = .ok (.iload_n 1, 1) := by decide +kernel
theorem d_Alu_plain_45 : decode b_Alu_plain 45 = .ok (.iload_n 2, 1) := by decide +kernel
theorem d_Alu_plain_46 : decode b_Alu_plain 46 = .ok (.iadd, 1) := by decide +kernel
theorem d_Alu_plain_47 : decode b_Alu_plain 47 = .ok (.ireturn, 1) := by decide +kernel
theorem d_Alu_plain_48 : decode b_Alu_plain 48 = .ok (.iload_n 1, 1) := by decide +kernel
theorem d_Alu_plain_49 : decode b_Alu_plain 49 = .ok (.iload_n 2, 1) := by decide +kernel
theorem d_Alu_plain_50 : decode b_Alu_plain 50 = .ok (.bipush 31, 2) := by decide +kernel
theorem d_Alu_plain_52 : decode b_Alu_plain 52 = .ok (.iand, 1) := by decide +kernel
theorem d_Alu_plain_53 : decode b_Alu_plain 53 = .ok (.ishl, 1) := by decide +kernel
theorem d_Alu_plain_54 : decode b_Alu_plain 54 = .ok (.ireturn, 1) := by decide +kernel
theorem d_Alu_plain_55 : decode b_Alu_plain 55 = .ok (.iload_n 1, 1) := by decide +kernel
theorem d_Alu_plain_56 : decode b_Alu_plain 56 = .ok (.iload_n 2, 1) := by decide +kernel
theorem d_Alu_plain_57 : decode b_Alu_plain 57 = .ok (.if_icmp .ge 7, 3) := by decide +kernel
theorem d_Alu_plain_60 : decode b_Alu_plain 60 = .ok (.iconst 1, 1) := by decide +kernel
theorem d_Alu_plain_61 : decode b_Alu_plain 61 = .ok (.goto 4, 3) := by decide +kernel
theorem d_Alu_plain_64 : decode b_Alu_plain 64 = .ok (.iconst 0, 1) := by decide +kernel
theorem d_Alu_plain_65 : decode b_Alu_plain 65 = .ok (.ireturn, 1) := by decide +kernel
theorem d_Alu_plain_66 : decode b_Alu_plain 66 = .ok (.iload_n 1, 1) := by decide +kernel
theorem d_Alu_plain_67 : decode b_Alu_plain 67 = .ok (.iload_n 2, 1) := by decide +kernel
theorem d_Alu_plain_68 : decode b_Alu_plain 68 = .ok (.invokestatic 10, 3) := by decide +kernel
theorem d_Alu_plain_71 : decode b_Alu_plain 71 = .ok (.ifCond .eq 7, 3) := by decide +kernel
theorem d_Alu_plain_74 : decode b_Alu_plain 74 = .ok (.iconst 1, 1) := by decide +kernel
theorem d_Alu_plain_75 : decode b_Alu_plain 75 = .ok (.goto 4, 3) := by decide +kernel
theorem d_Alu_plain_78 : decode b_Alu_plain 78 = .ok (.iconst 0, 1) := by decide +kernel
theorem d_Alu_plain_79 : decode b_Alu_plain 79 = .ok (.ireturn, 1) := by decide +kernel
theorem d_Alu_plain_80 : decode b_Alu_plain 80 = .ok (.iload_n 1, 1) := by decide +kernel
theorem d_Alu_plain_81 : decode b_Alu_plain 81 = .ok (.iload_n 2, 1) := by decide +kernel
theorem d_Alu_plain_82 : decode b_Alu_plain 82 = .ok (.ixor, 1) := by decide +kernel
theorem d_Alu_plain_83 : decode b_Alu_plain 83 = .ok (.ireturn, 1) := by decide +kernel
theorem d_Alu_plain_84 : decode b_Alu_plain 84 = .ok (.iload_n 1, 1) := by decide +kernel
theorem d_Alu_plain_85 : decode b_Alu_plain 85 = .ok (.iload_n 2, 1) := by decide +kernel
theorem d_Alu_plain_86 : decode b_Alu_plain 86 = .ok (.bipush 31, 2) := by decide +kernel
theorem d_Alu_plain_88 : decode b_Alu_plain 88 = .ok (.iand, 1) := by decide +kernel
theorem d_Alu_plain_89 : decode b_Alu_plain 89 = .ok (.iushr, 1) := by decide +kernel
theorem d_Alu_plain_90 : decode b_Alu_plain 90 = .ok (.ireturn, 1) := by decide +kernel
theorem d_Alu_plain_91 : decode b_Alu_plain 91 = .ok (.iload_n 1, 1) := by decide +kernel
theorem d_Alu_plain_92 : decode b_Alu_plain 92 = .ok (.iload_n 2, 1) := by decide +kernel
theorem d_Alu_plain_93 : decode b_Alu_plain 93 = .ok (.ior, 1) := by decide +kernel
theorem d_Alu_plain_94 : decode b_Alu_plain 94 = .ok (.ireturn, 1) := by decide +kernel
theorem d_Alu_plain_95 : decode b_Alu_plain 95 = .ok (.iload_n 1, 1) := by decide +kernel
theorem d_Alu_plain_96 : decode b_Alu_plain 96 = .ok (.iload_n 2, 1) := by decide +kernel
theorem d_Alu_plain_97 : decode b_Alu_plain 97 = .ok (.iand, 1) := by decide +kernel
theorem d_Alu_plain_98 : decode b_Alu_plain 98 = .ok (.ireturn, 1) := by decide +kernel
theorem d_Field_upper_0 : decode b_Field_upper 0 = .ok (.iload_n 0, 1) := by decide +kernel
theorem d_Field_upper_1 : decode b_Field_upper 1 = .ok (.sipush (-4096), 3) := by decide +kernel
theorem d_Field_upper_4 : decode b_Field_upper 4 = .ok (.iand, 1) := by decide +kernel
theorem d_Field_upper_5 : decode b_Field_upper 5 = .ok (.ireturn, 1) := by decide +kernel
theorem d_Field_storeOffset_0 : decode b_Field_storeOffset 0 = .ok (.iload_n 0, 1) := by decide +kernel
theorem d_Field_storeOffset_1 : decode b_Field_storeOffset 1 = .ok (.bipush 25, 2) := by decide +kernel
theorem d_Field_storeOffset_3 : decode b_Field_storeOffset 3 = .ok (.ishr, 1) := by decide +kernel
theorem d_Field_storeOffset_4 : decode b_Field_storeOffset 4 = .ok (.iconst 5, 1) := by decide +kernel
theorem d_Field_storeOffset_5 : decode b_Field_storeOffset 5 = .ok (.ishl, 1) := by decide +kernel
theorem d_Field_storeOffset_6 : decode b_Field_storeOffset 6 = .ok (.iload_n 0, 1) := by decide +kernel
theorem d_Field_storeOffset_7 : decode b_Field_storeOffset 7 = .ok (.invokestatic 7, 3) := by decide +kernel
theorem d_Field_storeOffset_10 : decode b_Field_storeOffset 10 = .ok (.ior, 1) := by decide +kernel
theorem d_Field_storeOffset_11 : decode b_Field_storeOffset 11 = .ok (.ireturn, 1) := by decide +kernel
theorem d_Alu_changed_0 : decode b_Alu_changed 0 = .ok (.iload_n 0, 1) := by decide +kernel
theorem d_Alu_changed_1 : decode b_Alu_changed 1 = .ok (.tableswitch 187 0 28 #[131, 187, 187, 187, 135, 187, 187, 187, 139, 187, 187, 187, 143, 187, 187, 187, 147, 187, 187, 187, 153, 187, 187, 187, 159, 187, 187, 187, 173], 131) := by decide +kernel
theorem d_Alu_changed_132 : decode b_Alu_changed 132 = .ok (.iload_n 1, 1) := by decide +kernel
theorem d_Alu_changed_133 : decode b_Alu_changed 133 = .ok (.iload_n 2, 1) := by decide +kernel
theorem d_Alu_changed_134 : decode b_Alu_changed 134 = .ok (.iadd, 1) := by decide +kernel
theorem d_Alu_changed_135 : decode b_Alu_changed 135 = .ok (.ireturn, 1) := by decide +kernel
theorem d_Alu_changed_136 : decode b_Alu_changed 136 = .ok (.iload_n 1, 1) := by decide +kernel
theorem d_Alu_changed_137 : decode b_Alu_changed 137 = .ok (.iload_n 2, 1) := by decide +kernel
theorem d_Alu_changed_138 : decode b_Alu_changed 138 = .ok (.ixor, 1) := by decide +kernel
theorem d_Alu_changed_139 : decode b_Alu_changed 139 = .ok (.ireturn, 1) := by decide +kernel
theorem d_Alu_changed_140 : decode b_Alu_changed 140 = .ok (.iload_n 1, 1) := by decide +kernel
theorem d_Alu_changed_141 : decode b_Alu_changed 141 = .ok (.iload_n 2, 1) := by decide +kernel
theorem d_Alu_changed_142 : decode b_Alu_changed 142 = .ok (.ior, 1) := by decide +kernel
theorem d_Alu_changed_143 : decode b_Alu_changed 143 = .ok (.ireturn, 1) := by decide +kernel
theorem d_Alu_changed_144 : decode b_Alu_changed 144 = .ok (.iload_n 1, 1) := by decide +kernel
theorem d_Alu_changed_145 : decode b_Alu_changed 145 = .ok (.iload_n 2, 1) := by decide +kernel
theorem d_Alu_changed_146 : decode b_Alu_changed 146 = .ok (.iand, 1) := by decide +kernel
theorem d_Alu_changed_147 : decode b_Alu_changed 147 = .ok (.ireturn, 1) := by decide +kernel
theorem d_Alu_changed_148 : decode b_Alu_changed 148 = .ok (.iload_n 1, 1) := by decide +kernel
theorem d_Alu_changed_149 : decode b_Alu_changed 149 = .ok (.iload_n 2, 1) := by decide +kernel
theorem d_Alu_changed_150 : decode b_Alu_changed 150 = .ok (.invokestatic 18, 3) := by decide +kernel
theorem d_Alu_changed_153 : decode b_Alu_changed 153 = .ok (.ireturn, 1) := by decide +kernel
theorem d_Alu_changed_154 : decode b_Alu_changed 154 = .ok (.iload_n 1, 1) := by decide +kernel
theorem d_Alu_changed_155 : decode b_Alu_changed 155 = .ok (.iload_n 2, 1) := by decide +kernel
theorem d_Alu_changed_156 : decode b_Alu_changed 156 = .ok (.invokestatic 24, 3) := by decide +kernel
theorem d_Alu_changed_159 : decode b_Alu_changed 159 = .ok (.ireturn, 1) := by decide +kernel
theorem d_Alu_changed_160 : decode b_Alu_changed 160 = .ok (.iload_n 1, 1) := by decide +kernel
theorem d_Alu_changed_161 : decode b_Alu_changed 161 = .ok (.iload_n 2, 1) := by decide +kernel
theorem d_Alu_changed_162 : decode b_Alu_changed 162 = .ok (.invokestatic 10, 3) := by decide +kernel
theorem d_Alu_changed_165 : decode b_Alu_changed 165 = .ok (.ifCond .eq 7, 3) := by decide +kernel
theorem d_Alu_changed_168 : decode b_Alu_changed 168 = .ok (.iload_n 1, 1) := by decide +kernel
theorem d_Alu_changed_169 : decode b_Alu_changed 169 = .ok (.goto 4, 3) := by decide +kernel
theorem d_Alu_changed_172 : decode b_Alu_changed 172 = .ok (.iload_n 2, 1) := by decide +kernel
theorem d_Alu_changed_173 : decode b_Alu_changed 173 = .ok (.ireturn, 1) := by decide +kernel
theorem d_Alu_changed_174 : decode b_Alu_changed 174 = .ok (.iload_n 1, 1) := by decide +kernel
theorem d_Alu_changed_175 : decode b_Alu_changed 175 = .ok (.iload_n 2, 1) := by decide +kernel
theorem d_Alu_changed_176 : decode b_Alu_changed 176 = .ok (.invokestatic 10, 3) := by decide +kernel
theorem d_Alu_changed_179 : decode b_Alu_changed 179 = .ok (.ifCond .eq 7, 3) := by decide +kernel
theorem d_Alu_changed_182 : decode b_Alu_changed 182 = .ok (.iload_n 2, 1) := by decide +kernel
theorem d_Alu_changed_183 : decode b_Alu_changed 183 = .ok (.goto 4, 3) := by decide +kernel
theorem d_Alu_changed_186 : decode b_Alu_changed 186 = .ok (.iload_n 1, 1) := by decide +kernel
theorem d_Alu_changed_187 : decode b_Alu_changed 187 = .ok (.ireturn, 1) := by decide +kernel
theorem d_Alu_changed_188 : decode b_Alu_changed 188 = .ok (.iload_n 2, 1) := by decide +kernel
theorem d_Alu_changed_189 : decode b_Alu_changed 189 = .ok (.ireturn, 1) := by decide +kernel
theorem d_Alu_multiplied_0 : decode b_Alu_multiplied 0 = .ok (.iload_n 0, 1) := by decide +kernel
theorem d_Alu_multiplied_1 : decode b_Alu_multiplied 1 = .ok (.tableswitch 69 1 3 #[27, 37, 51], 27) := by decide +kernel
theorem d_Alu_multiplied_28 : decode b_Alu_multiplied 28 = .ok (.iload_n 1, 1) := by decide +kernel
theorem d_Alu_multiplied_29 : decode b_Alu_multiplied 29 = .ok (.i2l, 1) := by decide +kernel
theorem d_Alu_multiplied_30 : decode b_Alu_multiplied 30 = .ok (.iload_n 2, 1) := by decide +kernel
theorem d_Alu_multiplied_31 : decode b_Alu_multiplied 31 = .ok (.i2l, 1) := by decide +kernel
theorem d_Alu_multiplied_32 : decode b_Alu_multiplied 32 = .ok (.lmul, 1) := by decide +kernel
theorem d_Alu_multiplied_33 : decode b_Alu_multiplied 33 = .ok (.bipush 32, 2) := by decide +kernel
theorem d_Alu_multiplied_35 : decode b_Alu_multiplied 35 = .ok (.lshr, 1) := by decide +kernel
theorem d_Alu_multiplied_36 : decode b_Alu_multiplied 36 = .ok (.l2i, 1) := by decide +kernel
theorem d_Alu_multiplied_37 : decode b_Alu_multiplied 37 = .ok (.ireturn, 1) := by decide +kernel
theorem d_Alu_multiplied_38 : decode b_Alu_multiplied 38 = .ok (.iload_n 1, 1) := by decide +kernel
theorem d_Alu_multiplied_39 : decode b_Alu_multiplied 39 = .ok (.i2l, 1) := by decide +kernel
theorem d_Alu_multiplied_40 : decode b_Alu_multiplied 40 = .ok (.iload_n 2, 1) := by decide +kernel
theorem d_Alu_multiplied_41 : decode b_Alu_multiplied 41 = .ok (.i2l, 1) := by decide +kernel
theorem d_Alu_multiplied_42 : decode b_Alu_multiplied 42 = .ok (.ldc2_w 16, 3) := by decide +kernel
theorem d_Alu_multiplied_45 : decode b_Alu_multiplied 45 = .ok (.land, 1) := by decide +kernel
theorem d_Alu_multiplied_46 : decode b_Alu_multiplied 46 = .ok (.lmul, 1) := by decide +kernel
theorem d_Alu_multiplied_47 : decode b_Alu_multiplied 47 = .ok (.bipush 32, 2) := by decide +kernel
theorem d_Alu_multiplied_49 : decode b_Alu_multiplied 49 = .ok (.lshr, 1) := by decide +kernel
theorem d_Alu_multiplied_50 : decode b_Alu_multiplied 50 = .ok (.l2i, 1) := by decide +kernel
theorem d_Alu_multiplied_51 : decode b_Alu_multiplied 51 = .ok (.ireturn, 1) := by decide +kernel
theorem d_Alu_multiplied_52 : decode b_Alu_multiplied 52 = .ok (.iload_n 1, 1) := by decide +kernel
theorem d_Alu_multiplied_53 : decode b_Alu_multiplied 53 = .ok (.i2l, 1) := by decide +kernel
theorem d_Alu_multiplied_54 : decode b_Alu_multiplied 54 = .ok (.ldc2_w 16, 3) := by decide +kernel
theorem d_Alu_multiplied_57 : decode b_Alu_multiplied 57 = .ok (.land, 1) := by decide +kernel
theorem d_Alu_multiplied_58 : decode b_Alu_multiplied 58 = .ok (.iload_n 2, 1) := by decide +kernel
theorem d_Alu_multiplied_59 : decode b_Alu_multiplied 59 = .ok (.i2l, 1) := by decide +kernel
theorem d_Alu_multiplied_60 : decode b_Alu_multiplied 60 = .ok (.ldc2_w 16, 3) := by decide +kernel
theorem d_Alu_multiplied_63 : decode b_Alu_multiplied 63 = .ok (.land, 1) := by decide +kernel
theorem d_Alu_multiplied_64 : decode b_Alu_multiplied 64 = .ok (.lmul, 1) := by decide +kernel
theorem d_Alu_multiplied_65 : decode b_Alu_multiplied 65 = .ok (.bipush 32, 2) := by decide +kernel
theorem d_Alu_multiplied_67 : decode b_Alu_multiplied 67 = .ok (.lshr, 1) := by decide +kernel
theorem d_Alu_multiplied_68 : decode b_Alu_multiplied 68 = .ok (.l2i, 1) := by decide +kernel
theorem d_Alu_multiplied_69 : decode b_Alu_multiplied 69 = .ok (.ireturn, 1) := by decide +kernel
theorem d_Alu_multiplied_70 : decode b_Alu_multiplied 70 = .ok (.iload_n 1, 1) := by decide +kernel
theorem d_Alu_multiplied_71 : decode b_Alu_multiplied 71 = .ok (.iload_n 2, 1) := by decide +kernel
theorem d_Alu_multiplied_72 : decode b_Alu_multiplied 72 = .ok (.imul, 1) := by decide +kernel
theorem d_Alu_multiplied_73 : decode b_Alu_multiplied 73 = .ok (.ireturn, 1) := by decide +kernel
theorem d_Alu_divided_0 : decode b_Alu_divided 0 = .ok (.iload_n 2, 1) := by decide +kernel
theorem d_Alu_divided_1 : decode b_Alu_divided 1 = .ok (.ifCond .ne 15, 3) := by decide +kernel
theorem d_Alu_divided_4 : decode b_Alu_divided 4 = .ok (.iload_n 0, 1) := by decide +kernel
theorem d_Alu_divided_5 : decode b_Alu_divided 5 = .ok (.bipush 6, 2) := by decide +kernel
theorem d_Alu_divided_7 : decode b_Alu_divided 7 = .ok (.if_icmp .ge 7, 3) := by decide +kernel
theorem d_Alu_divided_10 : decode b_Alu_divided 10 = .ok (.iconst (-1), 1) := by decide +kernel
theorem d_Alu_divided_11 : decode b_Alu_divided 11 = .ok (.goto 4, 3) := by decide +kernel
theorem d_Alu_divided_14 : decode b_Alu_divided 14 = .ok (.iload_n 1, 1) := by decide +kernel
theorem d_Alu_divided_15 : decode b_Alu_divided 15 = .ok (.ireturn, 1) := by decide +kernel
theorem d_Alu_divided_16 : decode b_Alu_divided 16 = .ok (.iload_n 0, 1) := by decide +kernel
theorem d_Alu_divided_17 : decode b_Alu_divided 17 = .ok (.tableswitch 50 4 6 #[27, 31, 46], 27) := by decide +kernel
theorem d_Alu_divided_44 : decode b_Alu_divided 44 = .ok (.iload_n 1, 1) := by decide +kernel
theorem d_Alu_divided_45 : decode b_Alu_divided 45 = .ok (.iload_n 2, 1) := by decide +kernel
theorem d_Alu_divided_46 : decode b_Alu_divided 46 = .ok (.idiv, 1) := by decide +kernel
theorem d_Alu_divided_47 : decode b_Alu_divided 47 = .ok (.ireturn, 1) := by decide +kernel
theorem d_Alu_divided_48 : decode b_Alu_divided 48 = .ok (.iload_n 1, 1) := by decide +kernel
theorem d_Alu_divided_49 : decode b_Alu_divided 49 = .ok (.i2l, 1) := by decide +kernel
theorem d_Alu_divided_50 : decode b_Alu_divided 50 = .ok (.ldc2_w 16, 3) := by decide +kernel
theorem d_Alu_divided_53 : decode b_Alu_divided 53 = .ok (.land, 1) := by decide +kernel
theorem d_Alu_divided_54 : decode b_Alu_divided 54 = .ok (.iload_n 2, 1) := by decide +kernel
theorem d_Alu_divided_55 : decode b_Alu_divided 55 = .ok (.i2l, 1) := by decide +kernel
theorem d_Alu_divided_56 : decode b_Alu_divided 56 = .ok (.ldc2_w 16, 3) := by decide +kernel
theorem d_Alu_divided_59 : decode b_Alu_divided 59 = .ok (.land, 1) := by decide +kernel
theorem d_Alu_divided_60 : decode b_Alu_divided 60 = .ok (.ldiv, 1) := by decide +kernel
theorem d_Alu_divided_61 : decode b_Alu_divided 61 = .ok (.l2i, 1) := by decide +kernel
theorem d_Alu_divided_62 : decode b_Alu_divided 62 = .ok (.ireturn, 1) := by decide +kernel
theorem d_Alu_divided_63 : decode b_Alu_divided 63 = .ok (.iload_n 1, 1) := by decide +kernel
theorem d_Alu_divided_64 : decode b_Alu_divided 64 = .ok (.iload_n 2, 1) := by decide +kernel
theorem d_Alu_divided_65 : decode b_Alu_divided 65 = .ok (.irem, 1) := by decide +kernel
theorem d_Alu_divided_66 : decode b_Alu_divided 66 = .ok (.ireturn, 1) := by decide +kernel
theorem d_Alu_divided_67 : decode b_Alu_divided 67 = .ok (.iload_n 1, 1) := by decide +kernel
theorem d_Alu_divided_68 : decode b_Alu_divided 68 = .ok (.i2l, 1) := by decide +kernel
theorem d_Alu_divided_69 : decode b_Alu_divided 69 = .ok (.ldc2_w 16, 3) := by decide +kernel
theorem d_Alu_divided_72 : decode b_Alu_divided 72 = .ok (.land, 1) := by decide +kernel
theorem d_Alu_divided_73 : decode b_Alu_divided 73 = .ok (.iload_n 2, 1) := by decide +kernel
theorem d_Alu_divided_74 : decode b_Alu_divided 74 = .ok (.i2l, 1) := by decide +kernel
theorem d_Alu_divided_75 : decode b_Alu_divided 75 = .ok (.ldc2_w 16, 3) := by decide +kernel
theorem d_Alu_divided_78 : decode b_Alu_divided 78 = .ok (.land, 1) := by decide +kernel
theorem d_Alu_divided_79 : decode b_Alu_divided 79 = .ok (.lrem, 1) := by decide +kernel
theorem d_Alu_divided_80 : decode b_Alu_divided 80 = .ok (.l2i, 1) := by decide +kernel
theorem d_Alu_divided_81 : decode b_Alu_divided 81 = .ok (.ireturn, 1) := by decide +kernel
theorem d_Alu_branches_0 : decode b_Alu_branches 0 = .ok (.iload_n 0, 1) := by decide +kernel
theorem d_Alu_branches_1 : decode b_Alu_branches 1 = .ok (.tableswitch 93 0 6 #[43, 54, 93, 93, 65, 76, 87], 43) := by decide +kernel
theorem d_Alu_branches_44 : decode b_Alu_branches 44 = .ok (.iload_n 1, 1) := by decide +kernel
theorem d_Alu_branches_45 : decode b_Alu_branches 45 = .ok (.iload_n 2, 1) := by decide +kernel
theorem d_Alu_branches_46 : decode b_Alu_branches 46 = .ok (.if_icmp .ne 7, 3) := by decide +kernel
theorem d_Alu_branches_49 : decode b_Alu_branches 49 = .ok (.iconst 1, 1) := by decide +kernel
theorem d_Alu_branches_50 : decode b_Alu_branches 50 = .ok (.goto 4, 3) := by decide +kernel
theorem d_Alu_branches_53 : decode b_Alu_branches 53 = .ok (.iconst 0, 1) := by decide +kernel
theorem d_Alu_branches_54 : decode b_Alu_branches 54 = .ok (.ireturn, 1) := by decide +kernel
theorem d_Alu_branches_55 : decode b_Alu_branches 55 = .ok (.iload_n 1, 1) := by decide +kernel
theorem d_Alu_branches_56 : decode b_Alu_branches 56 = .ok (.iload_n 2, 1) := by decide +kernel
theorem d_Alu_branches_57 : decode b_Alu_branches 57 = .ok (.if_icmp .eq 7, 3) := by decide +kernel
theorem d_Alu_branches_60 : decode b_Alu_branches 60 = .ok (.iconst 1, 1) := by decide +kernel
theorem d_Alu_branches_61 : decode b_Alu_branches 61 = .ok (.goto 4, 3) := by decide +kernel
theorem d_Alu_branches_64 : decode b_Alu_branches 64 = .ok (.iconst 0, 1) := by decide +kernel
theorem d_Alu_branches_65 : decode b_Alu_branches 65 = .ok (.ireturn, 1) := by decide +kernel
theorem d_Alu_branches_66 : decode b_Alu_branches 66 = .ok (.iload_n 1, 1) := by decide +kernel
theorem d_Alu_branches_67 : decode b_Alu_branches 67 = .ok (.iload_n 2, 1) := by decide +kernel
theorem d_Alu_branches_68 : decode b_Alu_branches 68 = .ok (.if_icmp .ge 7, 3) := by decide +kernel
theorem d_Alu_branches_71 : decode b_Alu_branches 71 = .ok (.iconst 1, 1) := by decide +kernel
theorem d_Alu_branches_72 : decode b_Alu_branches 72 = .ok (.goto 4, 3) := by decide +kernel
theorem d_Alu_branches_75 : decode b_Alu_branches 75 = .ok (.iconst 0, 1) := by decide +kernel
theorem d_Alu_branches_76 : decode b_Alu_branches 76 = .ok (.ireturn, 1) := by decide +kernel
theorem d_Alu_branches_77 : decode b_Alu_branches 77 = .ok (.iload_n 1, 1) := by decide +kernel
theorem d_Alu_branches_78 : decode b_Alu_branches 78 = .ok (.iload_n 2, 1) := by decide +kernel
theorem d_Alu_branches_79 : decode b_Alu_branches 79 = .ok (.if_icmp .lt 7, 3) := by decide +kernel
theorem d_Alu_branches_82 : decode b_Alu_branches 82 = .ok (.iconst 1, 1) := by decide +kernel
theorem d_Alu_branches_83 : decode b_Alu_branches 83 = .ok (.goto 4, 3) := by decide +kernel
theorem d_Alu_branches_86 : decode b_Alu_branches 86 = .ok (.iconst 0, 1) := by decide +kernel
theorem d_Alu_branches_87 : decode b_Alu_branches 87 = .ok (.ireturn, 1) := by decide +kernel
theorem d_Alu_branches_88 : decode b_Alu_branches 88 = .ok (.iload_n 1, 1) := by decide +kernel
theorem d_Alu_branches_89 : decode b_Alu_branches 89 = .ok (.iload_n 2, 1) := by decide +kernel
theorem d_Alu_branches_90 : decode b_Alu_branches 90 = .ok (.invokestatic 10, 3) := by decide +kernel
theorem d_Alu_branches_93 : decode b_Alu_branches 93 = .ok (.ireturn, 1) := by decide +kernel
theorem d_Alu_branches_94 : decode b_Alu_branches 94 = .ok (.iload_n 1, 1) := by decide +kernel
theorem d_Alu_branches_95 : decode b_Alu_branches 95 = .ok (.iload_n 2, 1) := by decide +kernel
theorem d_Alu_branches_96 : decode b_Alu_branches 96 = .ok (.invokestatic 10, 3) := by decide +kernel
theorem d_Alu_branches_99 : decode b_Alu_branches 99 = .ok (.ifCond .ne 7, 3) := by decide +kernel
theorem d_Alu_branches_102 : decode b_Alu_branches 102 = .ok (.iconst 1, 1) := by decide +kernel
theorem d_Alu_branches_103 : decode b_Alu_branches 103 = .ok (.goto 4, 3) := by decide +kernel
theorem d_Alu_branches_106 : decode b_Alu_branches 106 = .ok (.iconst 0, 1) := by decide +kernel
theorem d_Alu_branches_107 : decode b_Alu_branches 107 = .ok (.ireturn, 1) := by decide +kernel
theorem d_Field_branchOffset_0 : decode b_Field_branchOffset 0 = .ok (.iload_n 0, 1) := by decide +kernel
theorem d_Field_branchOffset_1 : decode b_Field_branchOffset 1 = .ok (.bipush 31, 2) := by decide +kernel
theorem d_Field_branchOffset_3 : decode b_Field_branchOffset 3 = .ok (.ishr, 1) := by decide +kernel
theorem d_Field_branchOffset_4 : decode b_Field_branchOffset 4 = .ok (.bipush 12, 2) := by decide +kernel
theorem d_Field_branchOffset_6 : decode b_Field_branchOffset 6 = .ok (.ishl, 1) := by decide +kernel
theorem d_Field_branchOffset_7 : decode b_Field_branchOffset 7 = .ok (.iload_n 0, 1) := by decide +kernel
theorem d_Field_branchOffset_8 : decode b_Field_branchOffset 8 = .ok (.bipush 25, 2) := by decide +kernel
theorem d_Field_branchOffset_10 : decode b_Field_branchOffset 10 = .ok (.iushr, 1) := by decide +kernel
theorem d_Field_branchOffset_11 : decode b_Field_branchOffset 11 = .ok (.bipush 63, 2) := by decide +kernel
theorem d_Field_branchOffset_13 : decode b_Field_branchOffset 13 = .ok (.iand, 1) := by decide +kernel
theorem d_Field_branchOffset_14 : decode b_Field_branchOffset 14 = .ok (.iconst 5, 1) := by decide +kernel
theorem d_Field_branchOffset_15 : decode b_Field_branchOffset 15 = .ok (.ishl, 1) := by decide +kernel
theorem d_Field_branchOffset_16 : decode b_Field_branchOffset 16 = .ok (.ior, 1) := by decide +kernel
theorem d_Field_branchOffset_17 : decode b_Field_branchOffset 17 = .ok (.iload_n 0, 1) := by decide +kernel
theorem d_Field_branchOffset_18 : decode b_Field_branchOffset 18 = .ok (.bipush 8, 2) := by decide +kernel
theorem d_Field_branchOffset_20 : decode b_Field_branchOffset 20 = .ok (.iushr, 1) := by decide +kernel
theorem d_Field_branchOffset_21 : decode b_Field_branchOffset 21 = .ok (.bipush 15, 2) := by decide +kernel
theorem d_Field_branchOffset_23 : decode b_Field_branchOffset 23 = .ok (.iand, 1) := by decide +kernel
theorem d_Field_branchOffset_24 : decode b_Field_branchOffset 24 = .ok (.iconst 1, 1) := by decide +kernel
theorem d_Field_branchOffset_25 : decode b_Field_branchOffset 25 = .ok (.ishl, 1) := by decide +kernel
theorem d_Field_branchOffset_26 : decode b_Field_branchOffset 26 = .ok (.ior, 1) := by decide +kernel
theorem d_Field_branchOffset_27 : decode b_Field_branchOffset 27 = .ok (.iload_n 0, 1) := by decide +kernel
theorem d_Field_branchOffset_28 : decode b_Field_branchOffset 28 = .ok (.bipush 7, 2) := by decide +kernel
theorem d_Field_branchOffset_30 : decode b_Field_branchOffset 30 = .ok (.iushr, 1) := by decide +kernel
theorem d_Field_branchOffset_31 : decode b_Field_branchOffset 31 = .ok (.iconst 1, 1) := by decide +kernel
theorem d_Field_branchOffset_32 : decode b_Field_branchOffset 32 = .ok (.iand, 1) := by decide +kernel
theorem d_Field_branchOffset_33 : decode b_Field_branchOffset 33 = .ok (.bipush 11, 2) := by decide +kernel
theorem d_Field_branchOffset_35 : decode b_Field_branchOffset 35 = .ok (.ishl, 1) := by decide +kernel
theorem d_Field_branchOffset_36 : decode b_Field_branchOffset 36 = .ok (.ior, 1) := by decide +kernel
theorem d_Field_branchOffset_37 : decode b_Field_branchOffset 37 = .ok (.ireturn, 1) := by decide +kernel
theorem d_Field_jumpOffset_0 : decode b_Field_jumpOffset 0 = .ok (.iload_n 0, 1) := by decide +kernel
theorem d_Field_jumpOffset_1 : decode b_Field_jumpOffset 1 = .ok (.bipush 31, 2) := by decide +kernel
theorem d_Field_jumpOffset_3 : decode b_Field_jumpOffset 3 = .ok (.ishr, 1) := by decide +kernel
theorem d_Field_jumpOffset_4 : decode b_Field_jumpOffset 4 = .ok (.bipush 20, 2) := by decide +kernel
theorem d_Field_jumpOffset_6 : decode b_Field_jumpOffset 6 = .ok (.ishl, 1) := by decide +kernel
theorem d_Field_jumpOffset_7 : decode b_Field_jumpOffset 7 = .ok (.iload_n 0, 1) := by decide +kernel
theorem d_Field_jumpOffset_8 : decode b_Field_jumpOffset 8 = .ok (.bipush 21, 2) := by decide +kernel
theorem d_Field_jumpOffset_10 : decode b_Field_jumpOffset 10 = .ok (.iushr, 1) := by decide +kernel
theorem d_Field_jumpOffset_11 : decode b_Field_jumpOffset 11 = .ok (.sipush 1023, 3) := by decide +kernel
theorem d_Field_jumpOffset_14 : decode b_Field_jumpOffset 14 = .ok (.iand, 1) := by decide +kernel
theorem d_Field_jumpOffset_15 : decode b_Field_jumpOffset 15 = .ok (.iconst 1, 1) := by decide +kernel
theorem d_Field_jumpOffset_16 : decode b_Field_jumpOffset 16 = .ok (.ishl, 1) := by decide +kernel
theorem d_Field_jumpOffset_17 : decode b_Field_jumpOffset 17 = .ok (.ior, 1) := by decide +kernel
theorem d_Field_jumpOffset_18 : decode b_Field_jumpOffset 18 = .ok (.iload_n 0, 1) := by decide +kernel
theorem d_Field_jumpOffset_19 : decode b_Field_jumpOffset 19 = .ok (.bipush 20, 2) := by decide +kernel
theorem d_Field_jumpOffset_21 : decode b_Field_jumpOffset 21 = .ok (.iushr, 1) := by decide +kernel
theorem d_Field_jumpOffset_22 : decode b_Field_jumpOffset 22 = .ok (.iconst 1, 1) := by decide +kernel
theorem d_Field_jumpOffset_23 : decode b_Field_jumpOffset 23 = .ok (.iand, 1) := by decide +kernel
theorem d_Field_jumpOffset_24 : decode b_Field_jumpOffset 24 = .ok (.bipush 11, 2) := by decide +kernel
theorem d_Field_jumpOffset_26 : decode b_Field_jumpOffset 26 = .ok (.ishl, 1) := by decide +kernel
theorem d_Field_jumpOffset_27 : decode b_Field_jumpOffset 27 = .ok (.ior, 1) := by decide +kernel
theorem d_Field_jumpOffset_28 : decode b_Field_jumpOffset 28 = .ok (.iload_n 0, 1) := by decide +kernel
theorem d_Field_jumpOffset_29 : decode b_Field_jumpOffset 29 = .ok (.ldc 13, 2) := by decide +kernel
theorem d_Field_jumpOffset_31 : decode b_Field_jumpOffset 31 = .ok (.iand, 1) := by decide +kernel
theorem d_Field_jumpOffset_32 : decode b_Field_jumpOffset 32 = .ok (.ior, 1) := by decide +kernel
theorem d_Field_jumpOffset_33 : decode b_Field_jumpOffset 33 = .ok (.ireturn, 1) := by decide +kernel
