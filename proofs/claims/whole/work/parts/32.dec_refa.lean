theorem d_Model_ramByte_0 : decode b_Model_ramByte 0 = .ok (.aload_n 0, 1) := by decide +kernel
theorem d_Model_ramByte_1 : decode b_Model_ramByte 1 = .ok (.getfield 7, 3) := by decide +kernel
theorem d_Model_ramByte_4 : decode b_Model_ramByte 4 = .ok (.iload_n 1, 1) := by decide +kernel
theorem d_Model_ramByte_5 : decode b_Model_ramByte 5 = .ok (.baload, 1) := by decide +kernel
theorem d_Model_ramByte_6 : decode b_Model_ramByte 6 = .ok (.sipush 255, 3) := by decide +kernel
theorem d_Model_ramByte_9 : decode b_Model_ramByte 9 = .ok (.iand, 1) := by decide +kernel
theorem d_Model_ramByte_10 : decode b_Model_ramByte 10 = .ok (.ireturn, 1) := by decide +kernel
theorem d_Model_ramWord_0 : decode b_Model_ramWord 0 = .ok (.aload_n 0, 1) := by decide +kernel
theorem d_Model_ramWord_1 : decode b_Model_ramWord 1 = .ok (.iload_n 1, 1) := by decide +kernel
theorem d_Model_ramWord_2 : decode b_Model_ramWord 2 = .ok (.invokevirtual 53, 3) := by decide +kernel
theorem d_Model_ramWord_5 : decode b_Model_ramWord 5 = .ok (.aload_n 0, 1) := by decide +kernel
theorem d_Model_ramWord_6 : decode b_Model_ramWord 6 = .ok (.iload_n 1, 1) := by decide +kernel
theorem d_Model_ramWord_7 : decode b_Model_ramWord 7 = .ok (.iconst 1, 1) := by decide +kernel
theorem d_Model_ramWord_8 : decode b_Model_ramWord 8 = .ok (.iadd, 1) := by decide +kernel
theorem d_Model_ramWord_9 : decode b_Model_ramWord 9 = .ok (.invokevirtual 53, 3) := by decide +kernel
theorem d_Model_ramWord_12 : decode b_Model_ramWord 12 = .ok (.bipush 8, 2) := by decide +kernel
theorem d_Model_ramWord_14 : decode b_Model_ramWord 14 = .ok (.ishl, 1) := by decide +kernel
theorem d_Model_ramWord_15 : decode b_Model_ramWord 15 = .ok (.ior, 1) := by decide +kernel
theorem d_Model_ramWord_16 : decode b_Model_ramWord 16 = .ok (.aload_n 0, 1) := by decide +kernel
theorem d_Model_ramWord_17 : decode b_Model_ramWord 17 = .ok (.iload_n 1, 1) := by decide +kernel
theorem d_Model_ramWord_18 : decode b_Model_ramWord 18 = .ok (.iconst 2, 1) := by decide +kernel
theorem d_Model_ramWord_19 : decode b_Model_ramWord 19 = .ok (.iadd, 1) := by decide +kernel
theorem d_Model_ramWord_20 : decode b_Model_ramWord 20 = .ok (.invokevirtual 53, 3) := by decide +kernel
theorem d_Model_ramWord_23 : decode b_Model_ramWord 23 = .ok (.bipush 16, 2) := by decide +kernel
theorem d_Model_ramWord_25 : decode b_Model_ramWord 25 = .ok (.ishl, 1) := by decide +kernel
theorem d_Model_ramWord_26 : decode b_Model_ramWord 26 = .ok (.ior, 1) := by decide +kernel
theorem d_Model_ramWord_27 : decode b_Model_ramWord 27 = .ok (.aload_n 0, 1) := by decide +kernel
theorem d_Model_ramWord_28 : decode b_Model_ramWord 28 = .ok (.iload_n 1, 1) := by decide +kernel
theorem d_Model_ramWord_29 : decode b_Model_ramWord 29 = .ok (.iconst 3, 1) := by decide +kernel
theorem d_Model_ramWord_30 : decode b_Model_ramWord 30 = .ok (.iadd, 1) := by decide +kernel
theorem d_Model_ramWord_31 : decode b_Model_ramWord 31 = .ok (.invokevirtual 53, 3) := by decide +kernel
theorem d_Model_ramWord_34 : decode b_Model_ramWord 34 = .ok (.bipush 24, 2) := by decide +kernel
theorem d_Model_ramWord_36 : decode b_Model_ramWord 36 = .ok (.ishl, 1) := by decide +kernel
theorem d_Model_ramWord_37 : decode b_Model_ramWord 37 = .ok (.ior, 1) := by decide +kernel
theorem d_Model_ramWord_38 : decode b_Model_ramWord 38 = .ok (.ireturn, 1) := by decide +kernel
theorem d_Model_setBytes_0 : decode b_Model_setBytes 0 = .ok (.iconst 0, 1) := by decide +kernel
theorem d_Model_setBytes_1 : decode b_Model_setBytes 1 = .ok (.istore 4, 2) := by decide +kernel
theorem d_Model_setBytes_3 : decode b_Model_setBytes 3 = .ok (.iload 4, 2) := by decide +kernel
theorem d_Model_setBytes_5 : decode b_Model_setBytes 5 = .ok (.iload_n 2, 1) := by decide +kernel
theorem d_Model_setBytes_6 : decode b_Model_setBytes 6 = .ok (.if_icmp .ge 26, 3) := by decide +kernel
theorem d_Model_setBytes_9 : decode b_Model_setBytes 9 = .ok (.aload_n 0, 1) := by decide +kernel
theorem d_Model_setBytes_10 : decode b_Model_setBytes 10 = .ok (.getfield 7, 3) := by decide +kernel
theorem d_Model_setBytes_13 : decode b_Model_setBytes 13 = .ok (.iload_n 1, 1) := by decide +kernel
theorem d_Model_setBytes_14 : decode b_Model_setBytes 14 = .ok (.iload 4, 2) := by decide +kernel
theorem d_Model_setBytes_16 : decode b_Model_setBytes 16 = .ok (.iadd, 1) := by decide +kernel
theorem d_Model_setBytes_17 : decode b_Model_setBytes 17 = .ok (.iload_n 3, 1) := by decide +kernel
theorem d_Model_setBytes_18 : decode b_Model_setBytes 18 = .ok (.bipush 8, 2) := by decide +kernel
theorem d_Model_setBytes_20 : decode b_Model_setBytes 20 = .ok (.iload 4, 2) := by decide +kernel
theorem d_Model_setBytes_22 : decode b_Model_setBytes 22 = .ok (.imul, 1) := by decide +kernel
theorem d_Model_setBytes_23 : decode b_Model_setBytes 23 = .ok (.ishr, 1) := by decide +kernel
theorem d_Model_setBytes_24 : decode b_Model_setBytes 24 = .ok (.i2b, 1) := by decide +kernel
theorem d_Model_setBytes_25 : decode b_Model_setBytes 25 = .ok (.bastore, 1) := by decide +kernel
theorem d_Model_setBytes_26 : decode b_Model_setBytes 26 = .ok (.iinc 4 1, 3) := by decide +kernel
theorem d_Model_setBytes_29 : decode b_Model_setBytes 29 = .ok (.goto (-26), 3) := by decide +kernel
theorem d_Model_setBytes_32 : decode b_Model_setBytes 32 = .ok (.return_, 1) := by decide +kernel
theorem d_Model_inRam_0 : decode b_Model_inRam 0 = .ok (.lload_n 1, 1) := by decide +kernel
theorem d_Model_inRam_1 : decode b_Model_inRam 1 = .ok (.ldc2_w 57, 3) := by decide +kernel
theorem d_Model_inRam_4 : decode b_Model_inRam 4 = .ok (.lsub, 1) := by decide +kernel
theorem d_Model_inRam_5 : decode b_Model_inRam 5 = .ok (.lstore_n 3, 1) := by decide +kernel
theorem d_Model_inRam_6 : decode b_Model_inRam 6 = .ok (.lload_n 3, 1) := by decide +kernel
theorem d_Model_inRam_7 : decode b_Model_inRam 7 = .ok (.lconst 0, 1) := by decide +kernel
theorem d_Model_inRam_8 : decode b_Model_inRam 8 = .ok (.lcmp, 1) := by decide +kernel
theorem d_Model_inRam_9 : decode b_Model_inRam 9 = .ok (.ifCond .lt 22, 3) := by decide +kernel
theorem d_Model_inRam_12 : decode b_Model_inRam 12 = .ok (.lload_n 3, 1) := by decide +kernel
theorem d_Model_inRam_13 : decode b_Model_inRam 13 = .ok (.ldc2_w 59, 3) := by decide +kernel
theorem d_Model_inRam_16 : decode b_Model_inRam 16 = .ok (.aload_n 0, 1) := by decide +kernel
theorem d_Model_inRam_17 : decode b_Model_inRam 17 = .ok (.getfield 39, 3) := by decide +kernel
theorem d_Model_inRam_20 : decode b_Model_inRam 20 = .ok (.i2l, 1) := by decide +kernel
theorem d_Model_inRam_21 : decode b_Model_inRam 21 = .ok (.lmul, 1) := by decide +kernel
theorem d_Model_inRam_22 : decode b_Model_inRam 22 = .ok (.lcmp, 1) := by decide +kernel
theorem d_Model_inRam_23 : decode b_Model_inRam 23 = .ok (.ifCond .ge 8, 3) := by decide +kernel
theorem d_Model_inRam_26 : decode b_Model_inRam 26 = .ok (.lload_n 3, 1) := by decide +kernel
theorem d_Model_inRam_27 : decode b_Model_inRam 27 = .ok (.l2i, 1) := by decide +kernel
theorem d_Model_inRam_28 : decode b_Model_inRam 28 = .ok (.goto 4, 3) := by decide +kernel
theorem d_Model_inRam_31 : decode b_Model_inRam 31 = .ok (.iconst (-1), 1) := by decide +kernel
theorem d_Model_inRam_32 : decode b_Model_inRam 32 = .ok (.ireturn, 1) := by decide +kernel
theorem d_Model_poke_0 : decode b_Model_poke 0 = .ok (.iload_n 1, 1) := by decide +kernel
theorem d_Model_poke_1 : decode b_Model_poke 1 = .ok (.ifCond .lt 11, 3) := by decide +kernel
theorem d_Model_poke_4 : decode b_Model_poke 4 = .ok (.iload_n 1, 1) := by decide +kernel
theorem d_Model_poke_5 : decode b_Model_poke 5 = .ok (.aload_n 0, 1) := by decide +kernel
theorem d_Model_poke_6 : decode b_Model_poke 6 = .ok (.getfield 39, 3) := by decide +kernel
theorem d_Model_poke_9 : decode b_Model_poke 9 = .ok (.if_icmp .lt 5, 3) := by decide +kernel
theorem d_Model_poke_12 : decode b_Model_poke 12 = .ok (.iconst 0, 1) := by decide +kernel
theorem d_Model_poke_13 : decode b_Model_poke 13 = .ok (.ireturn, 1) := by decide +kernel
theorem d_Model_poke_14 : decode b_Model_poke 14 = .ok (.aload_n 0, 1) := by decide +kernel
theorem d_Model_poke_15 : decode b_Model_poke 15 = .ok (.iconst 4, 1) := by decide +kernel
theorem d_Model_poke_16 : decode b_Model_poke 16 = .ok (.iload_n 1, 1) := by decide +kernel
theorem d_Model_poke_17 : decode b_Model_poke 17 = .ok (.imul, 1) := by decide +kernel
theorem d_Model_poke_18 : decode b_Model_poke 18 = .ok (.iconst 4, 1) := by decide +kernel
theorem d_Model_poke_19 : decode b_Model_poke 19 = .ok (.iload_n 2, 1) := by decide +kernel
theorem d_Model_poke_20 : decode b_Model_poke 20 = .ok (.invokevirtual 61, 3) := by decide +kernel
theorem d_Model_poke_23 : decode b_Model_poke 23 = .ok (.iconst 1, 1) := by decide +kernel
theorem d_Model_poke_24 : decode b_Model_poke 24 = .ok (.ireturn, 1) := by decide +kernel
theorem d_Model_peek_0 : decode b_Model_peek 0 = .ok (.iload_n 1, 1) := by decide +kernel
theorem d_Model_peek_1 : decode b_Model_peek 1 = .ok (.ifCond .lt 11, 3) := by decide +kernel
theorem d_Model_peek_4 : decode b_Model_peek 4 = .ok (.iload_n 1, 1) := by decide +kernel
theorem d_Model_peek_5 : decode b_Model_peek 5 = .ok (.aload_n 0, 1) := by decide +kernel
theorem d_Model_peek_6 : decode b_Model_peek 6 = .ok (.getfield 39, 3) := by decide +kernel
theorem d_Model_peek_9 : decode b_Model_peek 9 = .ok (.if_icmp .lt 7, 3) := by decide +kernel
theorem d_Model_peek_12 : decode b_Model_peek 12 = .ok (.iconst 0, 1) := by decide +kernel
theorem d_Model_peek_13 : decode b_Model_peek 13 = .ok (.goto 10, 3) := by decide +kernel
theorem d_Model_peek_16 : decode b_Model_peek 16 = .ok (.aload_n 0, 1) := by decide +kernel
theorem d_Model_peek_17 : decode b_Model_peek 17 = .ok (.iconst 4, 1) := by decide +kernel
theorem d_Model_peek_18 : decode b_Model_peek 18 = .ok (.iload_n 1, 1) := by decide +kernel
theorem d_Model_peek_19 : decode b_Model_peek 19 = .ok (.imul, 1) := by decide +kernel
theorem d_Model_peek_20 : decode b_Model_peek 20 = .ok (.invokevirtual 65, 3) := by decide +kernel
theorem d_Model_peek_23 : decode b_Model_peek 23 = .ok (.ireturn, 1) := by decide +kernel
theorem d_Model_isCsr_0 : decode b_Model_isCsr 0 = .ok (.iload_n 0, 1) := by decide +kernel
theorem d_Model_isCsr_1 : decode b_Model_isCsr 1 = .ok (.sipush 768, 3) := by decide +kernel
theorem d_Model_isCsr_4 : decode b_Model_isCsr 4 = .ok (.if_icmp .lt 10, 3) := by decide +kernel
theorem d_Model_isCsr_7 : decode b_Model_isCsr 7 = .ok (.iload_n 0, 1) := by decide +kernel
theorem d_Model_isCsr_8 : decode b_Model_isCsr 8 = .ok (.sipush 773, 3) := by decide +kernel
theorem d_Model_isCsr_11 : decode b_Model_isCsr 11 = .ok (.if_icmp .le 31, 3) := by decide +kernel
theorem d_Model_isCsr_14 : decode b_Model_isCsr 14 = .ok (.iload_n 0, 1) := by decide +kernel
theorem d_Model_isCsr_15 : decode b_Model_isCsr 15 = .ok (.sipush 832, 3) := by decide +kernel
theorem d_Model_isCsr_18 : decode b_Model_isCsr 18 = .ok (.if_icmp .lt 10, 3) := by decide +kernel
theorem d_Model_isCsr_21 : decode b_Model_isCsr 21 = .ok (.iload_n 0, 1) := by decide +kernel
theorem d_Model_isCsr_22 : decode b_Model_isCsr 22 = .ok (.sipush 836, 3) := by decide +kernel
theorem d_Model_isCsr_25 : decode b_Model_isCsr 25 = .ok (.if_icmp .le 17, 3) := by decide +kernel
theorem d_Model_isCsr_28 : decode b_Model_isCsr 28 = .ok (.iload_n 0, 1) := by decide +kernel
theorem d_Model_isCsr_29 : decode b_Model_isCsr 29 = .ok (.sipush 3857, 3) := by decide +kernel
theorem d_Model_isCsr_32 : decode b_Model_isCsr 32 = .ok (.if_icmp .lt 14, 3) := by decide +kernel
theorem d_Model_isCsr_35 : decode b_Model_isCsr 35 = .ok (.iload_n 0, 1) := by decide +kernel
theorem d_Model_isCsr_36 : decode b_Model_isCsr 36 = .ok (.sipush 3860, 3) := by decide +kernel
theorem d_Model_isCsr_39 : decode b_Model_isCsr 39 = .ok (.if_icmp .gt 7, 3) := by decide +kernel
theorem d_Model_isCsr_42 : decode b_Model_isCsr 42 = .ok (.iconst 1, 1) := by decide +kernel
theorem d_Model_isCsr_43 : decode b_Model_isCsr 43 = .ok (.goto 4, 3) := by decide +kernel
theorem d_Model_isCsr_46 : decode b_Model_isCsr 46 = .ok (.iconst 0, 1) := by decide +kernel
theorem d_Model_isCsr_47 : decode b_Model_isCsr 47 = .ok (.istore_n 1, 1) := by decide +kernel
theorem d_Model_isCsr_48 : decode b_Model_isCsr 48 = .ok (.iload_n 1, 1) := by decide +kernel
theorem d_Model_isCsr_49 : decode b_Model_isCsr 49 = .ok (.ifCond .ne 45, 3) := by decide +kernel
theorem d_Model_isCsr_52 : decode b_Model_isCsr 52 = .ok (.iload_n 0, 1) := by decide +kernel
theorem d_Model_isCsr_53 : decode b_Model_isCsr 53 = .ok (.sipush 256, 3) := by decide +kernel
theorem d_Model_isCsr_56 : decode b_Model_isCsr 56 = .ok (.if_icmp .eq 38, 3) := by decide +kernel
theorem d_Model_isCsr_59 : decode b_Model_isCsr 59 = .ok (.iload_n 0, 1) := by decide +kernel
theorem d_Model_isCsr_60 : decode b_Model_isCsr 60 = .ok (.sipush 260, 3) := by decide +kernel
theorem d_Model_isCsr_63 : decode b_Model_isCsr 63 = .ok (.if_icmp .eq 31, 3) := by decide +kernel
theorem d_Model_isCsr_66 : decode b_Model_isCsr 66 = .ok (.iload_n 0, 1) := by decide +kernel
theorem d_Model_isCsr_67 : decode b_Model_isCsr 67 = .ok (.sipush 261, 3) := by decide +kernel
theorem d_Model_isCsr_70 : decode b_Model_isCsr 70 = .ok (.if_icmp .eq 24, 3) := by decide +kernel
theorem d_Model_isCsr_73 : decode b_Model_isCsr 73 = .ok (.iload_n 0, 1) := by decide +kernel
theorem d_Model_isCsr_74 : decode b_Model_isCsr 74 = .ok (.sipush 320, 3) := by decide +kernel
theorem d_Model_isCsr_77 : decode b_Model_isCsr 77 = .ok (.if_icmp .lt 10, 3) := by decide +kernel
theorem d_Model_isCsr_80 : decode b_Model_isCsr 80 = .ok (.iload_n 0, 1) := by decide +kernel
theorem d_Model_isCsr_81 : decode b_Model_isCsr 81 = .ok (.sipush 324, 3) := by decide +kernel
theorem d_Model_isCsr_84 : decode b_Model_isCsr 84 = .ok (.if_icmp .le 10, 3) := by decide +kernel
theorem d_Model_isCsr_87 : decode b_Model_isCsr 87 = .ok (.iload_n 0, 1) := by decide +kernel
theorem d_Model_isCsr_88 : decode b_Model_isCsr 88 = .ok (.sipush 384, 3) := by decide +kernel
theorem d_Model_isCsr_91 : decode b_Model_isCsr 91 = .ok (.if_icmp .ne 7, 3) := by decide +kernel
theorem d_Model_isCsr_94 : decode b_Model_isCsr 94 = .ok (.iconst 1, 1) := by decide +kernel
theorem d_Model_isCsr_95 : decode b_Model_isCsr 95 = .ok (.goto 4, 3) := by decide +kernel
theorem d_Model_isCsr_98 : decode b_Model_isCsr 98 = .ok (.iconst 0, 1) := by decide +kernel
theorem d_Model_isCsr_99 : decode b_Model_isCsr 99 = .ok (.ireturn, 1) := by decide +kernel
theorem d_Model_sstatusBits_0 : decode b_Model_sstatusBits 0 = .ok (.ldc 68, 2) := by decide +kernel
theorem d_Model_sstatusBits_2 : decode b_Model_sstatusBits 2 = .ok (.ireturn, 1) := by decide +kernel
theorem d_Model_raw_0 : decode b_Model_raw 0 = .ok (.aload_n 0, 1) := by decide +kernel
theorem d_Model_raw_1 : decode b_Model_raw 1 = .ok (.getfield 23, 3) := by decide +kernel
theorem d_Model_raw_4 : decode b_Model_raw 4 = .ok (.sipush 4096, 3) := by decide +kernel
theorem d_Model_raw_7 : decode b_Model_raw 7 = .ok (.iload_n 1, 1) := by decide +kernel
theorem d_Model_raw_8 : decode b_Model_raw 8 = .ok (.imul, 1) := by decide +kernel
theorem d_Model_raw_9 : decode b_Model_raw 9 = .ok (.iload_n 2, 1) := by decide +kernel
theorem d_Model_raw_10 : decode b_Model_raw 10 = .ok (.iadd, 1) := by decide +kernel
theorem d_Model_raw_11 : decode b_Model_raw 11 = .ok (.iaload, 1) := by decide +kernel
theorem d_Model_raw_12 : decode b_Model_raw 12 = .ok (.ireturn, 1) := by decide +kernel
theorem d_Model_read_0 : decode b_Model_read 0 = .ok (.aload_n 0, 1) := by decide +kernel
theorem d_Model_read_1 : decode b_Model_read 1 = .ok (.getfield 49, 3) := by decide +kernel
theorem d_Model_read_4 : decode b_Model_read 4 = .ok (.ldc2_w 69, 3) := by decide +kernel
theorem d_Model_read_7 : decode b_Model_read 7 = .ok (.ladd, 1) := by decide +kernel
theorem d_Model_read_8 : decode b_Model_read 8 = .ok (.aload_n 0, 1) := by decide +kernel
theorem d_Model_read_9 : decode b_Model_read 9 = .ok (.getfield 29, 3) := by decide +kernel
theorem d_Model_read_12 : decode b_Model_read 12 = .ok (.iload_n 1, 1) := by decide +kernel
theorem d_Model_read_13 : decode b_Model_read 13 = .ok (.laload, 1) := by decide +kernel
theorem d_Model_read_14 : decode b_Model_read 14 = .ok (.ldc2_w 69, 3) := by decide +kernel
theorem d_Model_read_17 : decode b_Model_read 17 = .ok (.ladd, 1) := by decide +kernel
theorem d_Model_read_18 : decode b_Model_read 18 = .ok (.lcmp, 1) := by decide +kernel
theorem d_Model_read_19 : decode b_Model_read 19 = .ok (.ifCond .lt 7, 3) := by decide +kernel
theorem d_Model_read_22 : decode b_Model_read 22 = .ok (.iconst 1, 1) := by decide +kernel
theorem d_Model_read_23 : decode b_Model_read 23 = .ok (.goto 4, 3) := by decide +kernel
theorem d_Model_read_26 : decode b_Model_read 26 = .ok (.iconst 0, 1) := by decide +kernel
theorem d_Model_read_27 : decode b_Model_read 27 = .ok (.istore_n 3, 1) := by decide +kernel
theorem d_Model_read_28 : decode b_Model_read 28 = .ok (.aload_n 0, 1) := by decide +kernel
theorem d_Model_read_29 : decode b_Model_read 29 = .ok (.iload_n 1, 1) := by decide +kernel
theorem d_Model_read_30 : decode b_Model_read 30 = .ok (.sipush 836, 3) := by decide +kernel
theorem d_Model_read_33 : decode b_Model_read 33 = .ok (.invokevirtual 71, 3) := by decide +kernel
theorem d_Model_read_36 : decode b_Model_read 36 = .ok (.aload_n 0, 1) := by decide +kernel
theorem d_Model_read_37 : decode b_Model_read 37 = .ok (.getfield 33, 3) := by decide +kernel
theorem d_Model_read_40 : decode b_Model_read 40 = .ok (.iload_n 1, 1) := by decide +kernel
theorem d_Model_read_41 : decode b_Model_read 41 = .ok (.iaload, 1) := by decide +kernel
theorem d_Model_read_42 : decode b_Model_read 42 = .ok (.iconst 1, 1) := by decide +kernel
theorem d_Model_read_43 : decode b_Model_read 43 = .ok (.if_icmp .ne 8, 3) := by decide +kernel
theorem d_Model_read_46 : decode b_Model_read 46 = .ok (.bipush 8, 2) := by decide +kernel
theorem d_Model_read_48 : decode b_Model_read 48 = .ok (.goto 4, 3) := by decide +kernel
theorem d_Model_read_51 : decode b_Model_read 51 = .ok (.iconst 0, 1) := by decide +kernel
theorem d_Model_read_52 : decode b_Model_read 52 = .ok (.ior, 1) := by decide +kernel
theorem d_Model_read_53 : decode b_Model_read 53 = .ok (.iload_n 3, 1) := by decide +kernel
theorem d_Model_read_54 : decode b_Model_read 54 = .ok (.ifCond .eq 9, 3) := by decide +kernel
theorem d_Model_read_57 : decode b_Model_read 57 = .ok (.sipush 128, 3) := by decide +kernel
theorem d_Model_read_60 : decode b_Model_read 60 = .ok (.goto 4, 3) := by decide +kernel
theorem d_Model_read_63 : decode b_Model_read 63 = .ok (.iconst 0, 1) := by decide +kernel
theorem d_Model_read_64 : decode b_Model_read 64 = .ok (.ior, 1) := by decide +kernel
theorem d_Model_read_65 : decode b_Model_read 65 = .ok (.istore 4, 2) := by decide +kernel
theorem d_Model_read_67 : decode b_Model_read 67 = .ok (.iload_n 2, 1) := by decide +kernel
theorem d_Model_read_68 : decode b_Model_read 68 = .ok (.lookupswitch 111 #[(256, 68), (260, 81), (324, 99), (769, 60), (836, 65), (3860, 63)], 60) := by decide +kernel
theorem d_Model_read_128 : decode b_Model_read 128 = .ok (.ldc 75, 2) := by decide +kernel
theorem d_Model_read_130 : decode b_Model_read 130 = .ok (.ireturn, 1) := by decide +kernel
theorem d_Model_read_131 : decode b_Model_read 131 = .ok (.iload_n 1, 1) := by decide +kernel
theorem d_Model_read_132 : decode b_Model_read 132 = .ok (.ireturn, 1) := by decide +kernel
theorem d_Model_read_133 : decode b_Model_read 133 = .ok (.iload 4, 2) := by decide +kernel
theorem d_Model_read_135 : decode b_Model_read 135 = .ok (.ireturn, 1) := by decide +kernel
theorem d_Model_read_136 : decode b_Model_read 136 = .ok (.aload_n 0, 1) := by decide +kernel
theorem d_Model_read_137 : decode b_Model_read 137 = .ok (.iload_n 1, 1) := by decide +kernel
theorem d_Model_read_138 : decode b_Model_read 138 = .ok (.sipush 768, 3) := by decide +kernel
theorem d_Model_read_141 : decode b_Model_read 141 = .ok (.invokevirtual 71, 3) := by decide +kernel
theorem d_Model_read_144 : decode b_Model_read 144 = .ok (.invokestatic 76, 3) := by decide +kernel
theorem d_Model_read_147 : decode b_Model_read 147 = .ok (.iand, 1) := by decide +kernel
theorem d_Model_read_148 : decode b_Model_read 148 = .ok (.ireturn, 1) := by decide +kernel
theorem d_Model_read_149 : decode b_Model_read 149 = .ok (.aload_n 0, 1) := by decide +kernel
theorem d_Model_read_150 : decode b_Model_read 150 = .ok (.iload_n 1, 1) := by decide +kernel
theorem d_Model_read_151 : decode b_Model_read 151 = .ok (.sipush 772, 3) := by decide +kernel
theorem d_Model_read_154 : decode b_Model_read 154 = .ok (.invokevirtual 71, 3) := by decide +kernel
theorem d_Model_read_157 : decode b_Model_read 157 = .ok (.aload_n 0, 1) := by decide +kernel
theorem d_Model_read_158 : decode b_Model_read 158 = .ok (.iload_n 1, 1) := by decide +kernel
theorem d_Model_read_159 : decode b_Model_read 159 = .ok (.sipush 771, 3) := by decide +kernel
theorem d_Model_read_162 : decode b_Model_read 162 = .ok (.invokevirtual 71, 3) := by decide +kernel
theorem d_Model_read_165 : decode b_Model_read 165 = .ok (.iand, 1) := by decide +kernel
theorem d_Model_read_166 : decode b_Model_read 166 = .ok (.ireturn, 1) := by decide +kernel
theorem d_Model_read_167 : decode b_Model_read 167 = .ok (.iload 4, 2) := by decide +kernel
theorem d_Model_read_169 : decode b_Model_read 169 = .ok (.aload_n 0, 1) := by decide +kernel
theorem d_Model_read_170 : decode b_Model_read 170 = .ok (.iload_n 1, 1) := by decide +kernel
theorem d_Model_read_171 : decode b_Model_read 171 = .ok (.sipush 771, 3) := by decide +kernel
theorem d_Model_read_174 : decode b_Model_read 174 = .ok (.invokevirtual 71, 3) := by decide +kernel
theorem d_Model_read_177 : decode b_Model_read 177 = .ok (.iand, 1) := by decide +kernel
theorem d_Model_read_178 : decode b_Model_read 178 = .ok (.ireturn, 1) := by decide +kernel
theorem d_Model_read_179 : decode b_Model_read 179 = .ok (.aload_n 0, 1) := by decide +kernel
theorem d_Model_read_180 : decode b_Model_read 180 = .ok (.iload_n 1, 1) := by decide +kernel
theorem d_Model_read_181 : decode b_Model_read 181 = .ok (.iload_n 2, 1) := by decide +kernel
theorem d_Model_read_182 : decode b_Model_read 182 = .ok (.invokevirtual 71, 3) := by decide +kernel
theorem d_Model_read_185 : decode b_Model_read 185 = .ok (.ireturn, 1) := by decide +kernel
theorem d_Model_keep_0 : decode b_Model_keep 0 = .ok (.aload_n 0, 1) := by decide +kernel
theorem d_Model_keep_1 : decode b_Model_keep 1 = .ok (.getfield 23, 3) := by decide +kernel
theorem d_Model_keep_4 : decode b_Model_keep 4 = .ok (.sipush 4096, 3) := by decide +kernel
theorem d_Model_keep_7 : decode b_Model_keep 7 = .ok (.iload_n 1, 1) := by decide +kernel
theorem d_Model_keep_8 : decode b_Model_keep 8 = .ok (.imul, 1) := by decide +kernel
theorem d_Model_keep_9 : decode b_Model_keep 9 = .ok (.iload_n 2, 1) := by decide +kernel
theorem d_Model_keep_10 : decode b_Model_keep 10 = .ok (.iadd, 1) := by decide +kernel
theorem d_Model_keep_11 : decode b_Model_keep 11 = .ok (.aload_n 0, 1) := by decide +kernel
theorem d_Model_keep_12 : decode b_Model_keep 12 = .ok (.iload_n 1, 1) := by decide +kernel
theorem d_Model_keep_13 : decode b_Model_keep 13 = .ok (.iload_n 2, 1) := by decide +kernel
theorem d_Model_keep_14 : decode b_Model_keep 14 = .ok (.invokevirtual 71, 3) := by decide +kernel
theorem d_Model_keep_17 : decode b_Model_keep 17 = .ok (.iload 4, 2) := by decide +kernel
theorem d_Model_keep_19 : decode b_Model_keep 19 = .ok (.iconst (-1), 1) := by decide +kernel
theorem d_Model_keep_20 : decode b_Model_keep 20 = .ok (.ixor, 1) := by decide +kernel
theorem d_Model_keep_21 : decode b_Model_keep 21 = .ok (.iand, 1) := by decide +kernel
theorem d_Model_keep_22 : decode b_Model_keep 22 = .ok (.iload_n 3, 1) := by decide +kernel
theorem d_Model_keep_23 : decode b_Model_keep 23 = .ok (.iload 4, 2) := by decide +kernel
theorem d_Model_keep_25 : decode b_Model_keep 25 = .ok (.iand, 1) := by decide +kernel
theorem d_Model_keep_26 : decode b_Model_keep 26 = .ok (.ior, 1) := by decide +kernel
theorem d_Model_keep_27 : decode b_Model_keep 27 = .ok (.iastore, 1) := by decide +kernel
theorem d_Model_keep_28 : decode b_Model_keep 28 = .ok (.return_, 1) := by decide +kernel
theorem d_Model_write_0 : decode b_Model_write 0 = .ok (.aload_n 0, 1) := by decide +kernel
theorem d_Model_write_1 : decode b_Model_write 1 = .ok (.iload_n 1, 1) := by decide +kernel
theorem d_Model_write_2 : decode b_Model_write 2 = .ok (.sipush 771, 3) := by decide +kernel
theorem d_Model_write_5 : decode b_Model_write 5 = .ok (.invokevirtual 71, 3) := by decide +kernel
theorem d_Model_write_8 : decode b_Model_write 8 = .ok (.istore 4, 2) := by decide +kernel
theorem d_Model_write_10 : decode b_Model_write 10 = .ok (.iload_n 2, 1) := by decide +kernel
theorem d_Model_write_11 : decode b_Model_write 11 = .ok (.lookupswitch 256 #[(256, 206), (260, 219), (261, 196), (321, 196), (324, 231), (384, 245), (768, 121), (769, 255), (770, 164), (771, 174), (772, 185), (773, 196), (833, 196), (836, 174)], 121) := by decide +kernel
theorem d_Model_write_132 : decode b_Model_write 132 = .ok (.aload_n 0, 1) := by decide +kernel
theorem d_Model_write_133 : decode b_Model_write 133 = .ok (.iload_n 1, 1) := by decide +kernel
theorem d_Model_write_134 : decode b_Model_write 134 = .ok (.iload_n 2, 1) := by decide +kernel
theorem d_Model_write_135 : decode b_Model_write 135 = .ok (.iload_n 3, 1) := by decide +kernel
theorem d_Model_write_136 : decode b_Model_write 136 = .ok (.bipush 11, 2) := by decide +kernel
theorem d_Model_write_138 : decode b_Model_write 138 = .ok (.ishr, 1) := by decide +kernel
theorem d_Model_write_139 : decode b_Model_write 139 = .ok (.iconst 3, 1) := by decide +kernel
theorem d_Model_write_140 : decode b_Model_write 140 = .ok (.iand, 1) := by decide +kernel
theorem d_Model_write_141 : decode b_Model_write 141 = .ok (.iconst 2, 1) := by decide +kernel
theorem d_Model_write_142 : decode b_Model_write 142 = .ok (.if_icmp .ne 11, 3) := by decide +kernel
theorem d_Model_write_145 : decode b_Model_write 145 = .ok (.iload_n 3, 1) := by decide +kernel
theorem d_Model_write_146 : decode b_Model_write 146 = .ok (.sipush (-6145), 3) := by decide +kernel
theorem d_Model_write_149 : decode b_Model_write 149 = .ok (.iand, 1) := by decide +kernel
theorem d_Model_write_150 : decode b_Model_write 150 = .ok (.goto 4, 3) := by decide +kernel
theorem d_Model_write_153 : decode b_Model_write 153 = .ok (.iload_n 3, 1) := by decide +kernel
theorem d_Model_write_154 : decode b_Model_write 154 = .ok (.invokestatic 76, 3) := by decide +kernel
theorem d_Model_write_157 : decode b_Model_write 157 = .ok (.bipush 8, 2) := by decide +kernel
theorem d_Model_write_159 : decode b_Model_write 159 = .ok (.ior, 1) := by decide +kernel
theorem d_Model_write_160 : decode b_Model_write 160 = .ok (.sipush 128, 3) := by decide +kernel
theorem d_Model_write_163 : decode b_Model_write 163 = .ok (.ior, 1) := by decide +kernel
theorem d_Model_write_164 : decode b_Model_write 164 = .ok (.sipush 6144, 3) := by decide +kernel
theorem d_Model_write_167 : decode b_Model_write 167 = .ok (.ior, 1) := by decide +kernel
theorem d_Model_write_168 : decode b_Model_write 168 = .ok (.ldc 80, 2) := by decide +kernel
theorem d_Model_write_170 : decode b_Model_write 170 = .ok (.ior, 1) := by decide +kernel
theorem d_Model_write_171 : decode b_Model_write 171 = .ok (.invokevirtual 81, 3) := by decide +kernel
theorem d_Model_write_174 : decode b_Model_write 174 = .ok (.return_, 1) := by decide +kernel
theorem d_Model_write_175 : decode b_Model_write 175 = .ok (.aload_n 0, 1) := by decide +kernel
theorem d_Model_write_176 : decode b_Model_write 176 = .ok (.iload_n 1, 1) := by decide +kernel
theorem d_Model_write_177 : decode b_Model_write 177 = .ok (.iload_n 2, 1) := by decide +kernel
theorem d_Model_write_178 : decode b_Model_write 178 = .ok (.iload_n 3, 1) := by decide +kernel
theorem d_Model_write_179 : decode b_Model_write 179 = .ok (.ldc 85, 2) := by decide +kernel
theorem d_Model_write_181 : decode b_Model_write 181 = .ok (.invokevirtual 81, 3) := by decide +kernel
theorem d_Model_write_184 : decode b_Model_write 184 = .ok (.return_, 1) := by decide +kernel
theorem d_Model_write_185 : decode b_Model_write 185 = .ok (.aload_n 0, 1) := by decide +kernel
theorem d_Model_write_186 : decode b_Model_write 186 = .ok (.iload_n 1, 1) := by decide +kernel
theorem d_Model_write_187 : decode b_Model_write 187 = .ok (.iload_n 2, 1) := by decide +kernel
theorem d_Model_write_188 : decode b_Model_write 188 = .ok (.iload_n 3, 1) := by decide +kernel
theorem d_Model_write_189 : decode b_Model_write 189 = .ok (.sipush 546, 3) := by decide +kernel
theorem d_Model_write_192 : decode b_Model_write 192 = .ok (.invokevirtual 81, 3) := by decide +kernel
theorem d_Model_write_195 : decode b_Model_write 195 = .ok (.return_, 1) := by decide +kernel
theorem d_Model_write_196 : decode b_Model_write 196 = .ok (.aload_n 0, 1) := by decide +kernel
theorem d_Model_write_197 : decode b_Model_write 197 = .ok (.iload_n 1, 1) := by decide +kernel
theorem d_Model_write_198 : decode b_Model_write 198 = .ok (.iload_n 2, 1) := by decide +kernel
theorem d_Model_write_199 : decode b_Model_write 199 = .ok (.iload_n 3, 1) := by decide +kernel
theorem d_Model_write_200 : decode b_Model_write 200 = .ok (.sipush 2730, 3) := by decide +kernel
theorem d_Model_write_203 : decode b_Model_write 203 = .ok (.invokevirtual 81, 3) := by decide +kernel
theorem d_Model_write_206 : decode b_Model_write 206 = .ok (.return_, 1) := by decide +kernel
theorem d_Model_write_207 : decode b_Model_write 207 = .ok (.aload_n 0, 1) := by decide +kernel
theorem d_Model_write_208 : decode b_Model_write 208 = .ok (.iload_n 1, 1) := by decide +kernel
theorem d_Model_write_209 : decode b_Model_write 209 = .ok (.iload_n 2, 1) := by decide +kernel
theorem d_Model_write_210 : decode b_Model_write 210 = .ok (.iload_n 3, 1) := by decide +kernel
theorem d_Model_write_211 : decode b_Model_write 211 = .ok (.bipush (-4), 2) := by decide +kernel
theorem d_Model_write_213 : decode b_Model_write 213 = .ok (.invokevirtual 81, 3) := by decide +kernel
theorem d_Model_write_216 : decode b_Model_write 216 = .ok (.return_, 1) := by decide +kernel
theorem d_Model_write_217 : decode b_Model_write 217 = .ok (.aload_n 0, 1) := by decide +kernel
theorem d_Model_write_218 : decode b_Model_write 218 = .ok (.iload_n 1, 1) := by decide +kernel
theorem d_Model_write_219 : decode b_Model_write 219 = .ok (.sipush 768, 3) := by decide +kernel
theorem d_Model_write_222 : decode b_Model_write 222 = .ok (.iload_n 3, 1) := by decide +kernel
theorem d_Model_write_223 : decode b_Model_write 223 = .ok (.invokestatic 76, 3) := by decide +kernel
theorem d_Model_write_226 : decode b_Model_write 226 = .ok (.invokevirtual 81, 3) := by decide +kernel
theorem d_Model_write_229 : decode b_Model_write 229 = .ok (.return_, 1) := by decide +kernel
theorem d_Model_write_230 : decode b_Model_write 230 = .ok (.aload_n 0, 1) := by decide +kernel
theorem d_Model_write_231 : decode b_Model_write 231 = .ok (.iload_n 1, 1) := by decide +kernel
theorem d_Model_write_232 : decode b_Model_write 232 = .ok (.sipush 772, 3) := by decide +kernel
theorem d_Model_write_235 : decode b_Model_write 235 = .ok (.iload_n 3, 1) := by decide +kernel
theorem d_Model_write_236 : decode b_Model_write 236 = .ok (.iload 4, 2) := by decide +kernel
theorem d_Model_write_238 : decode b_Model_write 238 = .ok (.invokevirtual 81, 3) := by decide +kernel
theorem d_Model_write_241 : decode b_Model_write 241 = .ok (.return_, 1) := by decide +kernel
theorem d_Model_write_242 : decode b_Model_write 242 = .ok (.aload_n 0, 1) := by decide +kernel
theorem d_Model_write_243 : decode b_Model_write 243 = .ok (.iload_n 1, 1) := by decide +kernel
theorem d_Model_write_244 : decode b_Model_write 244 = .ok (.sipush 836, 3) := by decide +kernel
theorem d_Model_write_247 : decode b_Model_write 247 = .ok (.iload_n 3, 1) := by decide +kernel
theorem d_Model_write_248 : decode b_Model_write 248 = .ok (.iload 4, 2) := by decide +kernel
theorem d_Model_write_250 : decode b_Model_write 250 = .ok (.iconst 2, 1) := by decide +kernel
theorem d_Model_write_251 : decode b_Model_write 251 = .ok (.iand, 1) := by decide +kernel
theorem d_Model_write_252 : decode b_Model_write 252 = .ok (.invokevirtual 81, 3) := by decide +kernel
theorem d_Model_write_255 : decode b_Model_write 255 = .ok (.return_, 1) := by decide +kernel
theorem d_Model_write_256 : decode b_Model_write 256 = .ok (.aload_n 0, 1) := by decide +kernel
theorem d_Model_write_257 : decode b_Model_write 257 = .ok (.iload_n 1, 1) := by decide +kernel
theorem d_Model_write_258 : decode b_Model_write 258 = .ok (.iload_n 2, 1) := by decide +kernel
theorem d_Model_write_259 : decode b_Model_write 259 = .ok (.iload_n 3, 1) := by decide +kernel
theorem d_Model_write_260 : decode b_Model_write 260 = .ok (.ldc 86, 2) := by decide +kernel
theorem d_Model_write_262 : decode b_Model_write 262 = .ok (.invokevirtual 81, 3) := by decide +kernel
theorem d_Model_write_265 : decode b_Model_write 265 = .ok (.return_, 1) := by decide +kernel
theorem d_Model_write_266 : decode b_Model_write 266 = .ok (.return_, 1) := by decide +kernel
theorem d_Model_write_267 : decode b_Model_write 267 = .ok (.aload_n 0, 1) := by decide +kernel
theorem d_Model_write_268 : decode b_Model_write 268 = .ok (.iload_n 1, 1) := by decide +kernel
theorem d_Model_write_269 : decode b_Model_write 269 = .ok (.iload_n 2, 1) := by decide +kernel
theorem d_Model_write_270 : decode b_Model_write 270 = .ok (.iload_n 3, 1) := by decide +kernel
theorem d_Model_write_271 : decode b_Model_write 271 = .ok (.iconst (-1), 1) := by decide +kernel
theorem d_Model_write_272 : decode b_Model_write 272 = .ok (.invokevirtual 81, 3) := by decide +kernel
theorem d_Model_write_275 : decode b_Model_write 275 = .ok (.return_, 1) := by decide +kernel
theorem d_Model_has_0 : decode b_Model_has 0 = .ok (.aload_n 0, 1) := by decide +kernel
theorem d_Model_has_1 : decode b_Model_has 1 = .ok (.aload_n 0, 1) := by decide +kernel
theorem d_Model_has_2 : decode b_Model_has 2 = .ok (.getfield 87, 3) := by decide +kernel
theorem d_Model_has_5 : decode b_Model_has 5 = .ok (.sipush 768, 3) := by decide +kernel
theorem d_Model_has_8 : decode b_Model_has 8 = .ok (.invokevirtual 71, 3) := by decide +kernel
theorem d_Model_has_11 : decode b_Model_has 11 = .ok (.iload_n 1, 1) := by decide +kernel
theorem d_Model_has_12 : decode b_Model_has 12 = .ok (.iand, 1) := by decide +kernel
theorem d_Model_has_13 : decode b_Model_has 13 = .ok (.ifCond .eq 7, 3) := by decide +kernel
theorem d_Model_has_16 : decode b_Model_has 16 = .ok (.iconst 1, 1) := by decide +kernel
theorem d_Model_has_17 : decode b_Model_has 17 = .ok (.goto 4, 3) := by decide +kernel
theorem d_Model_has_20 : decode b_Model_has 20 = .ok (.iconst 0, 1) := by decide +kernel
theorem d_Model_has_21 : decode b_Model_has 21 = .ok (.ireturn, 1) := by decide +kernel
theorem d_Model_trap_0 : decode b_Model_trap 0 = .ok (.aload_n 0, 1) := by decide +kernel
theorem d_Model_trap_1 : decode b_Model_trap 1 = .ok (.getfield 90, 3) := by decide +kernel
theorem d_Model_trap_4 : decode b_Model_trap 4 = .ok (.iconst (-1), 1) := by decide +kernel
theorem d_Model_trap_5 : decode b_Model_trap 5 = .ok (.if_icmp .eq 4, 3) := by decide +kernel
theorem d_Model_trap_8 : decode b_Model_trap 8 = .ok (.return_, 1) := by decide +kernel
theorem d_Model_trap_9 : decode b_Model_trap 9 = .ok (.aload_n 0, 1) := by decide +kernel
theorem d_Model_trap_10 : decode b_Model_trap 10 = .ok (.iload_n 1, 1) := by decide +kernel
theorem d_Model_trap_11 : decode b_Model_trap 11 = .ok (.putfield 90, 3) := by decide +kernel
theorem d_Model_trap_14 : decode b_Model_trap 14 = .ok (.aload_n 0, 1) := by decide +kernel
theorem d_Model_trap_15 : decode b_Model_trap 15 = .ok (.iload_n 2, 1) := by decide +kernel
theorem d_Model_trap_16 : decode b_Model_trap 16 = .ok (.putfield 93, 3) := by decide +kernel
theorem d_Model_trap_19 : decode b_Model_trap 19 = .ok (.return_, 1) := by decide +kernel
theorem d_Model_take_0 : decode b_Model_take 0 = .ok (.aload_n 0, 1) := by decide +kernel
theorem d_Model_take_1 : decode b_Model_take 1 = .ok (.aload_n 0, 1) := by decide +kernel
theorem d_Model_take_2 : decode b_Model_take 2 = .ok (.getfield 87, 3) := by decide +kernel
theorem d_Model_take_5 : decode b_Model_take 5 = .ok (.sipush 768, 3) := by decide +kernel
theorem d_Model_take_8 : decode b_Model_take 8 = .ok (.invokevirtual 71, 3) := by decide +kernel
theorem d_Model_take_11 : decode b_Model_take 11 = .ok (.istore 4, 2) := by decide +kernel
theorem d_Model_take_13 : decode b_Model_take 13 = .ok (.iload_n 3, 1) := by decide +kernel
theorem d_Model_take_14 : decode b_Model_take 14 = .ok (.ifCond .eq 9, 3) := by decide +kernel
theorem d_Model_take_17 : decode b_Model_take 17 = .ok (.sipush 320, 3) := by decide +kernel
theorem d_Model_take_20 : decode b_Model_take 20 = .ok (.goto 6, 3) := by decide +kernel
theorem d_Model_take_23 : decode b_Model_take 23 = .ok (.sipush 832, 3) := by decide +kernel
theorem d_Model_take_26 : decode b_Model_take 26 = .ok (.istore 5, 2) := by decide +kernel
theorem d_Model_take_28 : decode b_Model_take 28 = .ok (.aload_n 0, 1) := by decide +kernel
theorem d_Model_take_29 : decode b_Model_take 29 = .ok (.aload_n 0, 1) := by decide +kernel
theorem d_Model_take_30 : decode b_Model_take 30 = .ok (.getfield 87, 3) := by decide +kernel
theorem d_Model_take_33 : decode b_Model_take 33 = .ok (.iload 5, 2) := by decide +kernel
theorem d_Model_take_35 : decode b_Model_take 35 = .ok (.iconst 1, 1) := by decide +kernel
theorem d_Model_take_36 : decode b_Model_take 36 = .ok (.iadd, 1) := by decide +kernel
theorem d_Model_take_37 : decode b_Model_take 37 = .ok (.aload_n 0, 1) := by decide +kernel
theorem d_Model_take_38 : decode b_Model_take 38 = .ok (.getfield 17, 3) := by decide +kernel
theorem d_Model_take_41 : decode b_Model_take 41 = .ok (.aload_n 0, 1) := by decide +kernel
theorem d_Model_take_42 : decode b_Model_take 42 = .ok (.getfield 87, 3) := by decide +kernel
theorem d_Model_take_45 : decode b_Model_take 45 = .ok (.iaload, 1) := by decide +kernel
theorem d_Model_take_46 : decode b_Model_take 46 = .ok (.iconst (-1), 1) := by decide +kernel
theorem d_Model_take_47 : decode b_Model_take 47 = .ok (.invokevirtual 81, 3) := by decide +kernel
theorem d_Model_take_50 : decode b_Model_take 50 = .ok (.aload_n 0, 1) := by decide +kernel
theorem d_Model_take_51 : decode b_Model_take 51 = .ok (.aload_n 0, 1) := by decide +kernel
theorem d_Model_take_52 : decode b_Model_take 52 = .ok (.getfield 87, 3) := by decide +kernel
theorem d_Model_take_55 : decode b_Model_take 55 = .ok (.iload 5, 2) := by decide +kernel
theorem d_Model_take_57 : decode b_Model_take 57 = .ok (.iconst 2, 1) := by decide +kernel
theorem d_Model_take_58 : decode b_Model_take 58 = .ok (.iadd, 1) := by decide +kernel
theorem d_Model_take_59 : decode b_Model_take 59 = .ok (.iload_n 1, 1) := by decide +kernel
theorem d_Model_take_60 : decode b_Model_take 60 = .ok (.iconst (-1), 1) := by decide +kernel
theorem d_Model_take_61 : decode b_Model_take 61 = .ok (.invokevirtual 81, 3) := by decide +kernel
theorem d_Model_take_64 : decode b_Model_take 64 = .ok (.aload_n 0, 1) := by decide +kernel
theorem d_Model_take_65 : decode b_Model_take 65 = .ok (.aload_n 0, 1) := by decide +kernel
theorem d_Model_take_66 : decode b_Model_take 66 = .ok (.getfield 87, 3) := by decide +kernel
theorem d_Model_take_69 : decode b_Model_take 69 = .ok (.iload 5, 2) := by decide +kernel
theorem d_Model_take_71 : decode b_Model_take 71 = .ok (.iconst 3, 1) := by decide +kernel
theorem d_Model_take_72 : decode b_Model_take 72 = .ok (.iadd, 1) := by decide +kernel
theorem d_Model_take_73 : decode b_Model_take 73 = .ok (.iload_n 2, 1) := by decide +kernel
theorem d_Model_take_74 : decode b_Model_take 74 = .ok (.iconst (-1), 1) := by decide +kernel
theorem d_Model_take_75 : decode b_Model_take 75 = .ok (.invokevirtual 81, 3) := by decide +kernel
theorem d_Model_take_78 : decode b_Model_take 78 = .ok (.iload_n 3, 1) := by decide +kernel
theorem d_Model_take_79 : decode b_Model_take 79 = .ok (.ifCond .eq 12, 3) := by decide +kernel
theorem d_Model_take_82 : decode b_Model_take 82 = .ok (.iload 4, 2) := by decide +kernel
theorem d_Model_take_84 : decode b_Model_take 84 = .ok (.iconst 1, 1) := by decide +kernel
theorem d_Model_take_85 : decode b_Model_take 85 = .ok (.ishr, 1) := by decide +kernel
theorem d_Model_take_86 : decode b_Model_take 86 = .ok (.iconst 1, 1) := by decide +kernel
theorem d_Model_take_87 : decode b_Model_take 87 = .ok (.iand, 1) := by decide +kernel
theorem d_Model_take_88 : decode b_Model_take 88 = .ok (.goto 9, 3) := by decide +kernel
theorem d_Model_take_91 : decode b_Model_take 91 = .ok (.iload 4, 2) := by decide +kernel
theorem d_Model_take_93 : decode b_Model_take 93 = .ok (.iconst 3, 1) := by decide +kernel
theorem d_Model_take_94 : decode b_Model_take 94 = .ok (.ishr, 1) := by decide +kernel
theorem d_Model_take_95 : decode b_Model_take 95 = .ok (.iconst 1, 1) := by decide +kernel
theorem d_Model_take_96 : decode b_Model_take 96 = .ok (.iand, 1) := by decide +kernel
theorem d_Model_take_97 : decode b_Model_take 97 = .ok (.istore 6, 2) := by decide +kernel
theorem d_Model_take_99 : decode b_Model_take 99 = .ok (.iload_n 3, 1) := by decide +kernel
theorem d_Model_take_100 : decode b_Model_take 100 = .ok (.ifCond .eq 45, 3) := by decide +kernel
theorem d_Model_take_103 : decode b_Model_take 103 = .ok (.aload_n 0, 1) := by decide +kernel
theorem d_Model_take_104 : decode b_Model_take 104 = .ok (.aload_n 0, 1) := by decide +kernel
theorem d_Model_take_105 : decode b_Model_take 105 = .ok (.getfield 87, 3) := by decide +kernel
theorem d_Model_take_108 : decode b_Model_take 108 = .ok (.sipush 768, 3) := by decide +kernel
theorem d_Model_take_111 : decode b_Model_take 111 = .ok (.aload_n 0, 1) := by decide +kernel
theorem d_Model_take_112 : decode b_Model_take 112 = .ok (.getfield 20, 3) := by decide +kernel
theorem d_Model_take_115 : decode b_Model_take 115 = .ok (.aload_n 0, 1) := by decide +kernel
theorem d_Model_take_116 : decode b_Model_take 116 = .ok (.getfield 87, 3) := by decide +kernel
theorem d_Model_take_119 : decode b_Model_take 119 = .ok (.iaload, 1) := by decide +kernel
theorem d_Model_take_120 : decode b_Model_take 120 = .ok (.iconst 1, 1) := by decide +kernel
theorem d_Model_take_121 : decode b_Model_take 121 = .ok (.if_icmp .ne 9, 3) := by decide +kernel
theorem d_Model_take_124 : decode b_Model_take 124 = .ok (.sipush 256, 3) := by decide +kernel
theorem d_Model_take_127 : decode b_Model_take 127 = .ok (.goto 4, 3) := by decide +kernel
theorem d_Model_take_130 : decode b_Model_take 130 = .ok (.iconst 0, 1) := by decide +kernel
theorem d_Model_take_131 : decode b_Model_take 131 = .ok (.iload 6, 2) := by decide +kernel
theorem d_Model_take_133 : decode b_Model_take 133 = .ok (.iconst 5, 1) := by decide +kernel
theorem d_Model_take_134 : decode b_Model_take 134 = .ok (.ishl, 1) := by decide +kernel
theorem d_Model_take_135 : decode b_Model_take 135 = .ok (.ior, 1) := by decide +kernel
theorem d_Model_take_136 : decode b_Model_take 136 = .ok (.sipush 290, 3) := by decide +kernel
theorem d_Model_take_139 : decode b_Model_take 139 = .ok (.invokevirtual 81, 3) := by decide +kernel
theorem d_Model_take_142 : decode b_Model_take 142 = .ok (.goto 35, 3) := by decide +kernel
theorem d_Model_take_145 : decode b_Model_take 145 = .ok (.aload_n 0, 1) := by decide +kernel
theorem d_Model_take_146 : decode b_Model_take 146 = .ok (.aload_n 0, 1) := by decide +kernel
theorem d_Model_take_147 : decode b_Model_take 147 = .ok (.getfield 87, 3) := by decide +kernel
theorem d_Model_take_150 : decode b_Model_take 150 = .ok (.sipush 768, 3) := by decide +kernel
theorem d_Model_take_153 : decode b_Model_take 153 = .ok (.aload_n 0, 1) := by decide +kernel
theorem d_Model_take_154 : decode b_Model_take 154 = .ok (.getfield 20, 3) := by decide +kernel
theorem d_Model_take_157 : decode b_Model_take 157 = .ok (.aload_n 0, 1) := by decide +kernel
theorem d_Model_take_158 : decode b_Model_take 158 = .ok (.getfield 87, 3) := by decide +kernel
theorem d_Model_take_161 : decode b_Model_take 161 = .ok (.iaload, 1) := by decide +kernel
theorem d_Model_take_162 : decode b_Model_take 162 = .ok (.bipush 11, 2) := by decide +kernel
theorem d_Model_take_164 : decode b_Model_take 164 = .ok (.ishl, 1) := by decide +kernel
theorem d_Model_take_165 : decode b_Model_take 165 = .ok (.iload 6, 2) := by decide +kernel
theorem d_Model_take_167 : decode b_Model_take 167 = .ok (.bipush 7, 2) := by decide +kernel
theorem d_Model_take_169 : decode b_Model_take 169 = .ok (.ishl, 1) := by decide +kernel
theorem d_Model_take_170 : decode b_Model_take 170 = .ok (.ior, 1) := by decide +kernel
theorem d_Model_take_171 : decode b_Model_take 171 = .ok (.sipush 6280, 3) := by decide +kernel
theorem d_Model_take_174 : decode b_Model_take 174 = .ok (.invokevirtual 81, 3) := by decide +kernel
theorem d_Model_take_177 : decode b_Model_take 177 = .ok (.aload_n 0, 1) := by decide +kernel
theorem d_Model_take_178 : decode b_Model_take 178 = .ok (.getfield 17, 3) := by decide +kernel
theorem d_Model_take_181 : decode b_Model_take 181 = .ok (.aload_n 0, 1) := by decide +kernel
theorem d_Model_take_182 : decode b_Model_take 182 = .ok (.getfield 87, 3) := by decide +kernel
theorem d_Model_take_185 : decode b_Model_take 185 = .ok (.aload_n 0, 1) := by decide +kernel
theorem d_Model_take_186 : decode b_Model_take 186 = .ok (.aload_n 0, 1) := by decide +kernel
theorem d_Model_take_187 : decode b_Model_take 187 = .ok (.getfield 87, 3) := by decide +kernel
theorem d_Model_take_190 : decode b_Model_take 190 = .ok (.iload_n 3, 1) := by decide +kernel
theorem d_Model_take_191 : decode b_Model_take 191 = .ok (.ifCond .eq 9, 3) := by decide +kernel
theorem d_Model_take_194 : decode b_Model_take 194 = .ok (.sipush 261, 3) := by decide +kernel
theorem d_Model_take_197 : decode b_Model_take 197 = .ok (.goto 6, 3) := by decide +kernel
theorem d_Model_take_200 : decode b_Model_take 200 = .ok (.sipush 773, 3) := by decide +kernel
theorem d_Model_take_203 : decode b_Model_take 203 = .ok (.invokevirtual 71, 3) := by decide +kernel
theorem d_Model_take_206 : decode b_Model_take 206 = .ok (.iastore, 1) := by decide +kernel
theorem d_Model_take_207 : decode b_Model_take 207 = .ok (.aload_n 0, 1) := by decide +kernel
theorem d_Model_take_208 : decode b_Model_take 208 = .ok (.getfield 20, 3) := by decide +kernel
theorem d_Model_take_211 : decode b_Model_take 211 = .ok (.aload_n 0, 1) := by decide +kernel
theorem d_Model_take_212 : decode b_Model_take 212 = .ok (.getfield 87, 3) := by decide +kernel
theorem d_Model_take_215 : decode b_Model_take 215 = .ok (.iload_n 3, 1) := by decide +kernel
theorem d_Model_take_216 : decode b_Model_take 216 = .ok (.ifCond .eq 7, 3) := by decide +kernel
theorem d_Model_take_219 : decode b_Model_take 219 = .ok (.iconst 1, 1) := by decide +kernel
theorem d_Model_take_220 : decode b_Model_take 220 = .ok (.goto 4, 3) := by decide +kernel
theorem d_Model_take_223 : decode b_Model_take 223 = .ok (.iconst 3, 1) := by decide +kernel
theorem d_Model_take_224 : decode b_Model_take 224 = .ok (.iastore, 1) := by decide +kernel
theorem d_Model_take_225 : decode b_Model_take 225 = .ok (.aload_n 0, 1) := by decide +kernel
theorem d_Model_take_226 : decode b_Model_take 226 = .ok (.getfield 26, 3) := by decide +kernel
theorem d_Model_take_229 : decode b_Model_take 229 = .ok (.iconst 0, 1) := by decide +kernel
theorem d_Model_take_230 : decode b_Model_take 230 = .ok (.iconst (-1), 1) := by decide +kernel
theorem d_Model_take_231 : decode b_Model_take 231 = .ok (.iastore, 1) := by decide +kernel
theorem d_Model_take_232 : decode b_Model_take 232 = .ok (.aload_n 0, 1) := by decide +kernel
theorem d_Model_take_233 : decode b_Model_take 233 = .ok (.getfield 26, 3) := by decide +kernel
theorem d_Model_take_236 : decode b_Model_take 236 = .ok (.iconst 1, 1) := by decide +kernel
theorem d_Model_take_237 : decode b_Model_take 237 = .ok (.iconst (-1), 1) := by decide +kernel
theorem d_Model_take_238 : decode b_Model_take 238 = .ok (.iastore, 1) := by decide +kernel
theorem d_Model_take_239 : decode b_Model_take 239 = .ok (.return_, 1) := by decide +kernel
theorem d_Model_firstOf_0 : decode b_Model_firstOf 0 = .ok (.iload_n 0, 1) := by decide +kernel
theorem d_Model_firstOf_1 : decode b_Model_firstOf 1 = .ok (.bipush 8, 2) := by decide +kernel
theorem d_Model_firstOf_3 : decode b_Model_firstOf 3 = .ok (.iand, 1) := by decide +kernel
theorem d_Model_firstOf_4 : decode b_Model_firstOf 4 = .ok (.ifCond .eq 5, 3) := by decide +kernel
theorem d_Model_firstOf_7 : decode b_Model_firstOf 7 = .ok (.iconst 3, 1) := by decide +kernel
theorem d_Model_firstOf_8 : decode b_Model_firstOf 8 = .ok (.ireturn, 1) := by decide +kernel
theorem d_Model_firstOf_9 : decode b_Model_firstOf 9 = .ok (.iload_n 0, 1) := by decide +kernel
theorem d_Model_firstOf_10 : decode b_Model_firstOf 10 = .ok (.sipush 128, 3) := by decide +kernel
theorem d_Model_firstOf_13 : decode b_Model_firstOf 13 = .ok (.iand, 1) := by decide +kernel
theorem d_Model_firstOf_14 : decode b_Model_firstOf 14 = .ok (.ifCond .eq 6, 3) := by decide +kernel
theorem d_Model_firstOf_17 : decode b_Model_firstOf 17 = .ok (.bipush 7, 2) := by decide +kernel
theorem d_Model_firstOf_19 : decode b_Model_firstOf 19 = .ok (.ireturn, 1) := by decide +kernel
theorem d_Model_firstOf_20 : decode b_Model_firstOf 20 = .ok (.iload_n 0, 1) := by decide +kernel
theorem d_Model_firstOf_21 : decode b_Model_firstOf 21 = .ok (.sipush 512, 3) := by decide +kernel
theorem d_Model_firstOf_24 : decode b_Model_firstOf 24 = .ok (.iand, 1) := by decide +kernel
theorem d_Model_firstOf_25 : decode b_Model_firstOf 25 = .ok (.ifCond .eq 6, 3) := by decide +kernel
theorem d_Model_firstOf_28 : decode b_Model_firstOf 28 = .ok (.bipush 9, 2) := by decide +kernel
theorem d_Model_firstOf_30 : decode b_Model_firstOf 30 = .ok (.ireturn, 1) := by decide +kernel
theorem d_Model_firstOf_31 : decode b_Model_firstOf 31 = .ok (.iload_n 0, 1) := by decide +kernel
theorem d_Model_firstOf_32 : decode b_Model_firstOf 32 = .ok (.iconst 2, 1) := by decide +kernel
theorem d_Model_firstOf_33 : decode b_Model_firstOf 33 = .ok (.iand, 1) := by decide +kernel
theorem d_Model_firstOf_34 : decode b_Model_firstOf 34 = .ok (.ifCond .eq 5, 3) := by decide +kernel
theorem d_Model_firstOf_37 : decode b_Model_firstOf 37 = .ok (.iconst 1, 1) := by decide +kernel
theorem d_Model_firstOf_38 : decode b_Model_firstOf 38 = .ok (.ireturn, 1) := by decide +kernel
theorem d_Model_firstOf_39 : decode b_Model_firstOf 39 = .ok (.iload_n 0, 1) := by decide +kernel
theorem d_Model_firstOf_40 : decode b_Model_firstOf 40 = .ok (.bipush 32, 2) := by decide +kernel
theorem d_Model_firstOf_42 : decode b_Model_firstOf 42 = .ok (.iand, 1) := by decide +kernel
theorem d_Model_firstOf_43 : decode b_Model_firstOf 43 = .ok (.ifCond .eq 7, 3) := by decide +kernel
theorem d_Model_firstOf_46 : decode b_Model_firstOf 46 = .ok (.iconst 5, 1) := by decide +kernel
theorem d_Model_firstOf_47 : decode b_Model_firstOf 47 = .ok (.goto 4, 3) := by decide +kernel
theorem d_Model_firstOf_50 : decode b_Model_firstOf 50 = .ok (.iconst (-1), 1) := by decide +kernel
theorem d_Model_firstOf_51 : decode b_Model_firstOf 51 = .ok (.ireturn, 1) := by decide +kernel
theorem d_Model_interrupt_0 : decode b_Model_interrupt 0 = .ok (.aload_n 0, 1) := by decide +kernel
theorem d_Model_interrupt_1 : decode b_Model_interrupt 1 = .ok (.aload_n 0, 1) := by decide +kernel
theorem d_Model_interrupt_2 : decode b_Model_interrupt 2 = .ok (.getfield 87, 3) := by decide +kernel
theorem d_Model_interrupt_5 : decode b_Model_interrupt 5 = .ok (.sipush 836, 3) := by decide +kernel
theorem d_Model_interrupt_8 : decode b_Model_interrupt 8 = .ok (.invokevirtual 96, 3) := by decide +kernel
theorem d_Model_interrupt_11 : decode b_Model_interrupt 11 = .ok (.aload_n 0, 1) := by decide +kernel
theorem d_Model_interrupt_12 : decode b_Model_interrupt 12 = .ok (.aload_n 0, 1) := by decide +kernel
theorem d_Model_interrupt_13 : decode b_Model_interrupt 13 = .ok (.getfield 87, 3) := by decide +kernel
theorem d_Model_interrupt_16 : decode b_Model_interrupt 16 = .ok (.sipush 772, 3) := by decide +kernel
theorem d_Model_interrupt_19 : decode b_Model_interrupt 19 = .ok (.invokevirtual 71, 3) := by decide +kernel
theorem d_Model_interrupt_22 : decode b_Model_interrupt 22 = .ok (.iand, 1) := by decide +kernel
theorem d_Model_interrupt_23 : decode b_Model_interrupt 23 = .ok (.istore_n 1, 1) := by decide +kernel
theorem d_Model_interrupt_24 : decode b_Model_interrupt 24 = .ok (.iload_n 1, 1) := by decide +kernel
theorem d_Model_interrupt_25 : decode b_Model_interrupt 25 = .ok (.aload_n 0, 1) := by decide +kernel
theorem d_Model_interrupt_26 : decode b_Model_interrupt 26 = .ok (.aload_n 0, 1) := by decide +kernel
theorem d_Model_interrupt_27 : decode b_Model_interrupt 27 = .ok (.getfield 87, 3) := by decide +kernel
theorem d_Model_interrupt_30 : decode b_Model_interrupt 30 = .ok (.sipush 771, 3) := by decide +kernel
theorem d_Model_interrupt_33 : decode b_Model_interrupt 33 = .ok (.invokevirtual 71, 3) := by decide +kernel
theorem d_Model_interrupt_36 : decode b_Model_interrupt 36 = .ok (.iconst (-1), 1) := by decide +kernel
theorem d_Model_interrupt_37 : decode b_Model_interrupt 37 = .ok (.ixor, 1) := by decide +kernel
theorem d_Model_interrupt_38 : decode b_Model_interrupt 38 = .ok (.iand, 1) := by decide +kernel
theorem d_Model_interrupt_39 : decode b_Model_interrupt 39 = .ok (.invokestatic 99, 3) := by decide +kernel
theorem d_Model_interrupt_42 : decode b_Model_interrupt 42 = .ok (.istore_n 2, 1) := by decide +kernel
theorem d_Model_interrupt_43 : decode b_Model_interrupt 43 = .ok (.iload_n 2, 1) := by decide +kernel
theorem d_Model_interrupt_44 : decode b_Model_interrupt 44 = .ok (.ifCond .lt 37, 3) := by decide +kernel
theorem d_Model_interrupt_47 : decode b_Model_interrupt 47 = .ok (.aload_n 0, 1) := by decide +kernel
theorem d_Model_interrupt_48 : decode b_Model_interrupt 48 = .ok (.getfield 20, 3) := by decide +kernel
theorem d_Model_interrupt_51 : decode b_Model_interrupt 51 = .ok (.aload_n 0, 1) := by decide +kernel
theorem d_Model_interrupt_52 : decode b_Model_interrupt 52 = .ok (.getfield 87, 3) := by decide +kernel
theorem d_Model_interrupt_55 : decode b_Model_interrupt 55 = .ok (.iaload, 1) := by decide +kernel
theorem d_Model_interrupt_56 : decode b_Model_interrupt 56 = .ok (.iconst 3, 1) := by decide +kernel
theorem d_Model_interrupt_57 : decode b_Model_interrupt 57 = .ok (.if_icmp .lt 12, 3) := by decide +kernel
theorem d_Model_interrupt_60 : decode b_Model_interrupt 60 = .ok (.aload_n 0, 1) := by decide +kernel
theorem d_Model_interrupt_61 : decode b_Model_interrupt 61 = .ok (.bipush 8, 2) := by decide +kernel
theorem d_Model_interrupt_63 : decode b_Model_interrupt 63 = .ok (.invokevirtual 102, 3) := by decide +kernel
theorem d_Model_interrupt_66 : decode b_Model_interrupt 66 = .ok (.ifCond .eq 15, 3) := by decide +kernel
theorem d_Model_interrupt_69 : decode b_Model_interrupt 69 = .ok (.aload_n 0, 1) := by decide +kernel
theorem d_Model_interrupt_70 : decode b_Model_interrupt 70 = .ok (.iload_n 2, 1) := by decide +kernel
theorem d_Model_interrupt_71 : decode b_Model_interrupt 71 = .ok (.ldc 46, 2) := by decide +kernel
theorem d_Model_interrupt_73 : decode b_Model_interrupt 73 = .ok (.ior, 1) := by decide +kernel
theorem d_Model_interrupt_74 : decode b_Model_interrupt 74 = .ok (.iconst 0, 1) := by decide +kernel
theorem d_Model_interrupt_75 : decode b_Model_interrupt 75 = .ok (.iconst 0, 1) := by decide +kernel
theorem d_Model_interrupt_76 : decode b_Model_interrupt 76 = .ok (.invokevirtual 106, 3) := by decide +kernel
theorem d_Model_interrupt_79 : decode b_Model_interrupt 79 = .ok (.iload_n 2, 1) := by decide +kernel
theorem d_Model_interrupt_80 : decode b_Model_interrupt 80 = .ok (.ireturn, 1) := by decide +kernel
theorem d_Model_interrupt_81 : decode b_Model_interrupt 81 = .ok (.iload_n 1, 1) := by decide +kernel
theorem d_Model_interrupt_82 : decode b_Model_interrupt 82 = .ok (.aload_n 0, 1) := by decide +kernel
theorem d_Model_interrupt_83 : decode b_Model_interrupt 83 = .ok (.aload_n 0, 1) := by decide +kernel
theorem d_Model_interrupt_84 : decode b_Model_interrupt 84 = .ok (.getfield 87, 3) := by decide +kernel
theorem d_Model_interrupt_87 : decode b_Model_interrupt 87 = .ok (.sipush 771, 3) := by decide +kernel
theorem d_Model_interrupt_90 : decode b_Model_interrupt 90 = .ok (.invokevirtual 71, 3) := by decide +kernel
theorem d_Model_interrupt_93 : decode b_Model_interrupt 93 = .ok (.iand, 1) := by decide +kernel
theorem d_Model_interrupt_94 : decode b_Model_interrupt 94 = .ok (.invokestatic 99, 3) := by decide +kernel
theorem d_Model_interrupt_97 : decode b_Model_interrupt 97 = .ok (.istore_n 3, 1) := by decide +kernel
theorem d_Model_interrupt_98 : decode b_Model_interrupt 98 = .ok (.iload_n 3, 1) := by decide +kernel
theorem d_Model_interrupt_99 : decode b_Model_interrupt 99 = .ok (.ifCond .lt 37, 3) := by decide +kernel
theorem d_Model_interrupt_102 : decode b_Model_interrupt 102 = .ok (.aload_n 0, 1) := by decide +kernel
theorem d_Model_interrupt_103 : decode b_Model_interrupt 103 = .ok (.getfield 20, 3) := by decide +kernel
theorem d_Model_interrupt_106 : decode b_Model_interrupt 106 = .ok (.aload_n 0, 1) := by decide +kernel
theorem d_Model_interrupt_107 : decode b_Model_interrupt 107 = .ok (.getfield 87, 3) := by decide +kernel
theorem d_Model_interrupt_110 : decode b_Model_interrupt 110 = .ok (.iaload, 1) := by decide +kernel
theorem d_Model_interrupt_111 : decode b_Model_interrupt 111 = .ok (.iconst 1, 1) := by decide +kernel
theorem d_Model_interrupt_112 : decode b_Model_interrupt 112 = .ok (.if_icmp .gt 24, 3) := by decide +kernel
theorem d_Model_interrupt_115 : decode b_Model_interrupt 115 = .ok (.aload_n 0, 1) := by decide +kernel
theorem d_Model_interrupt_116 : decode b_Model_interrupt 116 = .ok (.getfield 20, 3) := by decide +kernel
theorem d_Model_interrupt_119 : decode b_Model_interrupt 119 = .ok (.aload_n 0, 1) := by decide +kernel
theorem d_Model_interrupt_120 : decode b_Model_interrupt 120 = .ok (.getfield 87, 3) := by decide +kernel
theorem d_Model_interrupt_123 : decode b_Model_interrupt 123 = .ok (.iaload, 1) := by decide +kernel
theorem d_Model_interrupt_124 : decode b_Model_interrupt 124 = .ok (.iconst 1, 1) := by decide +kernel
theorem d_Model_interrupt_125 : decode b_Model_interrupt 125 = .ok (.if_icmp .ne 13, 3) := by decide +kernel
theorem d_Model_interrupt_128 : decode b_Model_interrupt 128 = .ok (.aload_n 0, 1) := by decide +kernel
theorem d_Model_interrupt_129 : decode b_Model_interrupt 129 = .ok (.iconst 2, 1) := by decide +kernel
theorem d_Model_interrupt_130 : decode b_Model_interrupt 130 = .ok (.invokevirtual 102, 3) := by decide +kernel
theorem d_Model_interrupt_133 : decode b_Model_interrupt 133 = .ok (.ifCond .ne 5, 3) := by decide +kernel
theorem d_Model_interrupt_136 : decode b_Model_interrupt 136 = .ok (.iconst (-1), 1) := by decide +kernel
theorem d_Model_interrupt_137 : decode b_Model_interrupt 137 = .ok (.ireturn, 1) := by decide +kernel
theorem d_Model_interrupt_138 : decode b_Model_interrupt 138 = .ok (.aload_n 0, 1) := by decide +kernel
theorem d_Model_interrupt_139 : decode b_Model_interrupt 139 = .ok (.iload_n 3, 1) := by decide +kernel
theorem d_Model_interrupt_140 : decode b_Model_interrupt 140 = .ok (.ldc 46, 2) := by decide +kernel
theorem d_Model_interrupt_142 : decode b_Model_interrupt 142 = .ok (.ior, 1) := by decide +kernel
theorem d_Model_interrupt_143 : decode b_Model_interrupt 143 = .ok (.iconst 0, 1) := by decide +kernel
theorem d_Model_interrupt_144 : decode b_Model_interrupt 144 = .ok (.iconst 1, 1) := by decide +kernel
theorem d_Model_interrupt_145 : decode b_Model_interrupt 145 = .ok (.invokevirtual 106, 3) := by decide +kernel
theorem d_Model_interrupt_148 : decode b_Model_interrupt 148 = .ok (.iload_n 3, 1) := by decide +kernel
theorem d_Model_interrupt_149 : decode b_Model_interrupt 149 = .ok (.ireturn, 1) := by decide +kernel
