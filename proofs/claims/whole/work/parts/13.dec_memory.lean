theorem d_Memory_dropClaims_0 : decode b_Memory_dropClaims 0 = .ok (.aload_n 0, 1) := by decide +kernel
theorem d_Memory_dropClaims_1 : decode b_Memory_dropClaims 1 = .ok (.getfield 28, 3) := by decide +kernel
theorem d_Memory_dropClaims_4 : decode b_Memory_dropClaims 4 = .ok (.iconst 0, 1) := by decide +kernel
theorem d_Memory_dropClaims_5 : decode b_Memory_dropClaims 5 = .ok (.ldc2_w 26, 3) := by decide +kernel
theorem d_Memory_dropClaims_8 : decode b_Memory_dropClaims 8 = .ok (.lastore, 1) := by decide +kernel
theorem d_Memory_dropClaims_9 : decode b_Memory_dropClaims 9 = .ok (.aload_n 0, 1) := by decide +kernel
theorem d_Memory_dropClaims_10 : decode b_Memory_dropClaims 10 = .ok (.getfield 28, 3) := by decide +kernel
theorem d_Memory_dropClaims_13 : decode b_Memory_dropClaims 13 = .ok (.iconst 1, 1) := by decide +kernel
theorem d_Memory_dropClaims_14 : decode b_Memory_dropClaims 14 = .ok (.ldc2_w 26, 3) := by decide +kernel
theorem d_Memory_dropClaims_17 : decode b_Memory_dropClaims 17 = .ok (.lastore, 1) := by decide +kernel
theorem d_Memory_dropClaims_18 : decode b_Memory_dropClaims 18 = .ok (.return_, 1) := by decide +kernel
theorem d_Memory_restart_0 : decode b_Memory_restart 0 = .ok (.aload_n 0, 1) := by decide +kernel
theorem d_Memory_restart_1 : decode b_Memory_restart 1 = .ok (.getfield 12, 3) := by decide +kernel
theorem d_Memory_restart_4 : decode b_Memory_restart 4 = .ok (.invokevirtual 36, 3) := by decide +kernel
theorem d_Memory_restart_7 : decode b_Memory_restart 7 = .ok (.aload_n 0, 1) := by decide +kernel
theorem d_Memory_restart_8 : decode b_Memory_restart 8 = .ok (.invokevirtual 39, 3) := by decide +kernel
theorem d_Memory_restart_11 : decode b_Memory_restart 11 = .ok (.return_, 1) := by decide +kernel
theorem d_Memory_hasWord_0 : decode b_Memory_hasWord 0 = .ok (.iload_n 1, 1) := by decide +kernel
theorem d_Memory_hasWord_1 : decode b_Memory_hasWord 1 = .ok (.ifCond .lt 16, 3) := by decide +kernel
theorem d_Memory_hasWord_4 : decode b_Memory_hasWord 4 = .ok (.iload_n 1, 1) := by decide +kernel
theorem d_Memory_hasWord_5 : decode b_Memory_hasWord 5 = .ok (.aload_n 0, 1) := by decide +kernel
theorem d_Memory_hasWord_6 : decode b_Memory_hasWord 6 = .ok (.getfield 32, 3) := by decide +kernel
theorem d_Memory_hasWord_9 : decode b_Memory_hasWord 9 = .ok (.arraylength, 1) := by decide +kernel
theorem d_Memory_hasWord_10 : decode b_Memory_hasWord 10 = .ok (.if_icmp .ge 7, 3) := by decide +kernel
theorem d_Memory_hasWord_13 : decode b_Memory_hasWord 13 = .ok (.iconst 1, 1) := by decide +kernel
theorem d_Memory_hasWord_14 : decode b_Memory_hasWord 14 = .ok (.goto 4, 3) := by decide +kernel
theorem d_Memory_hasWord_17 : decode b_Memory_hasWord 17 = .ok (.iconst 0, 1) := by decide +kernel
theorem d_Memory_hasWord_18 : decode b_Memory_hasWord 18 = .ok (.ireturn, 1) := by decide +kernel
theorem d_Memory_isRam_0 : decode b_Memory_isRam 0 = .ok (.lload_n 1, 1) := by decide +kernel
theorem d_Memory_isRam_1 : decode b_Memory_isRam 1 = .ok (.ldc2_w 42, 3) := by decide +kernel
theorem d_Memory_isRam_4 : decode b_Memory_isRam 4 = .ok (.lcmp, 1) := by decide +kernel
theorem d_Memory_isRam_5 : decode b_Memory_isRam 5 = .ok (.ifCond .lt 26, 3) := by decide +kernel
theorem d_Memory_isRam_8 : decode b_Memory_isRam 8 = .ok (.lload_n 1, 1) := by decide +kernel
theorem d_Memory_isRam_9 : decode b_Memory_isRam 9 = .ok (.ldc2_w 42, 3) := by decide +kernel
theorem d_Memory_isRam_12 : decode b_Memory_isRam 12 = .ok (.ldc2_w 44, 3) := by decide +kernel
theorem d_Memory_isRam_15 : decode b_Memory_isRam 15 = .ok (.aload_n 0, 1) := by decide +kernel
theorem d_Memory_isRam_16 : decode b_Memory_isRam 16 = .ok (.getfield 32, 3) := by decide +kernel
theorem d_Memory_isRam_19 : decode b_Memory_isRam 19 = .ok (.arraylength, 1) := by decide +kernel
theorem d_Memory_isRam_20 : decode b_Memory_isRam 20 = .ok (.i2l, 1) := by decide +kernel
theorem d_Memory_isRam_21 : decode b_Memory_isRam 21 = .ok (.lmul, 1) := by decide +kernel
theorem d_Memory_isRam_22 : decode b_Memory_isRam 22 = .ok (.ladd, 1) := by decide +kernel
theorem d_Memory_isRam_23 : decode b_Memory_isRam 23 = .ok (.lcmp, 1) := by decide +kernel
theorem d_Memory_isRam_24 : decode b_Memory_isRam 24 = .ok (.ifCond .ge 7, 3) := by decide +kernel
theorem d_Memory_isRam_27 : decode b_Memory_isRam 27 = .ok (.iconst 1, 1) := by decide +kernel
theorem d_Memory_isRam_28 : decode b_Memory_isRam 28 = .ok (.goto 4, 3) := by decide +kernel
theorem d_Memory_isRam_31 : decode b_Memory_isRam 31 = .ok (.iconst 0, 1) := by decide +kernel
theorem d_Memory_isRam_32 : decode b_Memory_isRam 32 = .ok (.ireturn, 1) := by decide +kernel
theorem d_Memory_indexOf_0 : decode b_Memory_indexOf 0 = .ok (.lload_n 0, 1) := by decide +kernel
theorem d_Memory_indexOf_1 : decode b_Memory_indexOf 1 = .ok (.ldc2_w 42, 3) := by decide +kernel
theorem d_Memory_indexOf_4 : decode b_Memory_indexOf 4 = .ok (.lsub, 1) := by decide +kernel
theorem d_Memory_indexOf_5 : decode b_Memory_indexOf 5 = .ok (.iconst 2, 1) := by decide +kernel
theorem d_Memory_indexOf_6 : decode b_Memory_indexOf 6 = .ok (.lshr, 1) := by decide +kernel
theorem d_Memory_indexOf_7 : decode b_Memory_indexOf 7 = .ok (.l2i, 1) := by decide +kernel
theorem d_Memory_indexOf_8 : decode b_Memory_indexOf 8 = .ok (.ireturn, 1) := by decide +kernel
theorem d_Memory_wordAt_0 : decode b_Memory_wordAt 0 = .ok (.aload_n 0, 1) := by decide +kernel
theorem d_Memory_wordAt_1 : decode b_Memory_wordAt 1 = .ok (.getfield 32, 3) := by decide +kernel
theorem d_Memory_wordAt_4 : decode b_Memory_wordAt 4 = .ok (.lload_n 1, 1) := by decide +kernel
theorem d_Memory_wordAt_5 : decode b_Memory_wordAt 5 = .ok (.invokestatic 65, 3) := by decide +kernel
theorem d_Memory_wordAt_8 : decode b_Memory_wordAt 8 = .ok (.iaload, 1) := by decide +kernel
theorem d_Memory_wordAt_9 : decode b_Memory_wordAt 9 = .ok (.ireturn, 1) := by decide +kernel
theorem d_Memory_allows_0 : decode b_Memory_allows 0 = .ok (.aload_n 0, 1) := by decide +kernel
theorem d_Memory_allows_1 : decode b_Memory_allows 1 = .ok (.lload_n 1, 1) := by decide +kernel
theorem d_Memory_allows_2 : decode b_Memory_allows 2 = .ok (.invokevirtual 46, 3) := by decide +kernel
theorem d_Memory_allows_5 : decode b_Memory_allows 5 = .ok (.ifCond .eq 5, 3) := by decide +kernel
theorem d_Memory_allows_8 : decode b_Memory_allows 8 = .ok (.iconst 1, 1) := by decide +kernel
theorem d_Memory_allows_9 : decode b_Memory_allows 9 = .ok (.ireturn, 1) := by decide +kernel
theorem d_Memory_allows_10 : decode b_Memory_allows 10 = .ok (.aload 4, 2) := by decide +kernel
theorem d_Memory_allows_12 : decode b_Memory_allows 12 = .ok (.getfield 50, 3) := by decide +kernel
theorem d_Memory_allows_15 : decode b_Memory_allows 15 = .ok (.ifCond .eq 5, 3) := by decide +kernel
theorem d_Memory_allows_18 : decode b_Memory_allows 18 = .ok (.iconst 0, 1) := by decide +kernel
theorem d_Memory_allows_19 : decode b_Memory_allows 19 = .ok (.ireturn, 1) := by decide +kernel
theorem d_Memory_allows_20 : decode b_Memory_allows 20 = .ok (.iload_n 3, 1) := by decide +kernel
theorem d_Memory_allows_21 : decode b_Memory_allows 21 = .ok (.iconst 4, 1) := by decide +kernel
theorem d_Memory_allows_22 : decode b_Memory_allows 22 = .ok (.if_icmp .ne 17, 3) := by decide +kernel
theorem d_Memory_allows_25 : decode b_Memory_allows 25 = .ok (.lload_n 1, 1) := by decide +kernel
theorem d_Memory_allows_26 : decode b_Memory_allows 26 = .ok (.invokestatic 56, 3) := by decide +kernel
theorem d_Memory_allows_29 : decode b_Memory_allows 29 = .ok (.iconst (-1), 1) := by decide +kernel
theorem d_Memory_allows_30 : decode b_Memory_allows 30 = .ok (.if_icmp .eq 7, 3) := by decide +kernel
theorem d_Memory_allows_33 : decode b_Memory_allows 33 = .ok (.iconst 1, 1) := by decide +kernel
theorem d_Memory_allows_34 : decode b_Memory_allows 34 = .ok (.goto 4, 3) := by decide +kernel
theorem d_Memory_allows_37 : decode b_Memory_allows 37 = .ok (.iconst 0, 1) := by decide +kernel
theorem d_Memory_allows_38 : decode b_Memory_allows 38 = .ok (.ireturn, 1) := by decide +kernel
theorem d_Memory_allows_39 : decode b_Memory_allows 39 = .ok (.iload_n 3, 1) := by decide +kernel
theorem d_Memory_allows_40 : decode b_Memory_allows 40 = .ok (.iconst 1, 1) := by decide +kernel
theorem d_Memory_allows_41 : decode b_Memory_allows 41 = .ok (.if_icmp .ne 23, 3) := by decide +kernel
theorem d_Memory_allows_44 : decode b_Memory_allows 44 = .ok (.aload 4, 2) := by decide +kernel
theorem d_Memory_allows_46 : decode b_Memory_allows 46 = .ok (.getfield 60, 3) := by decide +kernel
theorem d_Memory_allows_49 : decode b_Memory_allows 49 = .ok (.ifCond .eq 15, 3) := by decide +kernel
theorem d_Memory_allows_52 : decode b_Memory_allows 52 = .ok (.lload_n 1, 1) := by decide +kernel
theorem d_Memory_allows_53 : decode b_Memory_allows 53 = .ok (.ldc2_w 63, 3) := by decide +kernel
theorem d_Memory_allows_56 : decode b_Memory_allows 56 = .ok (.lcmp, 1) := by decide +kernel
theorem d_Memory_allows_57 : decode b_Memory_allows 57 = .ok (.ifCond .ne 7, 3) := by decide +kernel
theorem d_Memory_allows_60 : decode b_Memory_allows 60 = .ok (.iconst 1, 1) := by decide +kernel
theorem d_Memory_allows_61 : decode b_Memory_allows 61 = .ok (.goto 4, 3) := by decide +kernel
theorem d_Memory_allows_64 : decode b_Memory_allows 64 = .ok (.iconst 0, 1) := by decide +kernel
theorem d_Memory_allows_65 : decode b_Memory_allows 65 = .ok (.ireturn, 1) := by decide +kernel
theorem d_Memory_shiftOf_0 : decode b_Memory_shiftOf 0 = .ok (.lload_n 0, 1) := by decide +kernel
theorem d_Memory_shiftOf_1 : decode b_Memory_shiftOf 1 = .ok (.ldc2_w 89, 3) := by decide +kernel
theorem d_Memory_shiftOf_4 : decode b_Memory_shiftOf 4 = .ok (.land, 1) := by decide +kernel
theorem d_Memory_shiftOf_5 : decode b_Memory_shiftOf 5 = .ok (.l2i, 1) := by decide +kernel
theorem d_Memory_shiftOf_6 : decode b_Memory_shiftOf 6 = .ok (.bipush 8, 2) := by decide +kernel
theorem d_Memory_shiftOf_8 : decode b_Memory_shiftOf 8 = .ok (.imul, 1) := by decide +kernel
theorem d_Memory_shiftOf_9 : decode b_Memory_shiftOf 9 = .ok (.ireturn, 1) := by decide +kernel
theorem d_Memory_maskOf_0 : decode b_Memory_maskOf 0 = .ok (.iload_n 0, 1) := by decide +kernel
theorem d_Memory_maskOf_1 : decode b_Memory_maskOf 1 = .ok (.iconst 4, 1) := by decide +kernel
theorem d_Memory_maskOf_2 : decode b_Memory_maskOf 2 = .ok (.if_icmp .ne 7, 3) := by decide +kernel
theorem d_Memory_maskOf_5 : decode b_Memory_maskOf 5 = .ok (.iconst (-1), 1) := by decide +kernel
theorem d_Memory_maskOf_6 : decode b_Memory_maskOf 6 = .ok (.goto 11, 3) := by decide +kernel
theorem d_Memory_maskOf_9 : decode b_Memory_maskOf 9 = .ok (.iconst 1, 1) := by decide +kernel
theorem d_Memory_maskOf_10 : decode b_Memory_maskOf 10 = .ok (.bipush 8, 2) := by decide +kernel
theorem d_Memory_maskOf_12 : decode b_Memory_maskOf 12 = .ok (.iload_n 0, 1) := by decide +kernel
theorem d_Memory_maskOf_13 : decode b_Memory_maskOf 13 = .ok (.imul, 1) := by decide +kernel
theorem d_Memory_maskOf_14 : decode b_Memory_maskOf 14 = .ok (.ishl, 1) := by decide +kernel
theorem d_Memory_maskOf_15 : decode b_Memory_maskOf 15 = .ok (.iconst 1, 1) := by decide +kernel
theorem d_Memory_maskOf_16 : decode b_Memory_maskOf 16 = .ok (.isub, 1) := by decide +kernel
theorem d_Memory_maskOf_17 : decode b_Memory_maskOf 17 = .ok (.ireturn, 1) := by decide +kernel
theorem d_Memory_load_0 : decode b_Memory_load 0 = .ok (.aload_n 0, 1) := by decide +kernel
theorem d_Memory_load_1 : decode b_Memory_load 1 = .ok (.lload_n 1, 1) := by decide +kernel
theorem d_Memory_load_2 : decode b_Memory_load 2 = .ok (.invokevirtual 46, 3) := by decide +kernel
theorem d_Memory_load_5 : decode b_Memory_load 5 = .ok (.ifCond .eq 23, 3) := by decide +kernel
theorem d_Memory_load_8 : decode b_Memory_load 8 = .ok (.aload_n 0, 1) := by decide +kernel
theorem d_Memory_load_9 : decode b_Memory_load 9 = .ok (.getfield 32, 3) := by decide +kernel
theorem d_Memory_load_12 : decode b_Memory_load 12 = .ok (.lload_n 1, 1) := by decide +kernel
theorem d_Memory_load_13 : decode b_Memory_load 13 = .ok (.invokestatic 65, 3) := by decide +kernel
theorem d_Memory_load_16 : decode b_Memory_load 16 = .ok (.iaload, 1) := by decide +kernel
theorem d_Memory_load_17 : decode b_Memory_load 17 = .ok (.lload_n 1, 1) := by decide +kernel
theorem d_Memory_load_18 : decode b_Memory_load 18 = .ok (.invokestatic 68, 3) := by decide +kernel
theorem d_Memory_load_21 : decode b_Memory_load 21 = .ok (.iushr, 1) := by decide +kernel
theorem d_Memory_load_22 : decode b_Memory_load 22 = .ok (.iload_n 3, 1) := by decide +kernel
theorem d_Memory_load_23 : decode b_Memory_load 23 = .ok (.invokestatic 71, 3) := by decide +kernel
theorem d_Memory_load_26 : decode b_Memory_load 26 = .ok (.iand, 1) := by decide +kernel
theorem d_Memory_load_27 : decode b_Memory_load 27 = .ok (.ireturn, 1) := by decide +kernel
theorem d_Memory_load_28 : decode b_Memory_load 28 = .ok (.lload_n 1, 1) := by decide +kernel
theorem d_Memory_load_29 : decode b_Memory_load 29 = .ok (.invokestatic 56, 3) := by decide +kernel
theorem d_Memory_load_32 : decode b_Memory_load 32 = .ok (.istore 4, 2) := by decide +kernel
theorem d_Memory_load_34 : decode b_Memory_load 34 = .ok (.iload 4, 2) := by decide +kernel
theorem d_Memory_load_36 : decode b_Memory_load 36 = .ok (.iconst (-1), 1) := by decide +kernel
theorem d_Memory_load_37 : decode b_Memory_load 37 = .ok (.if_icmp .ne 7, 3) := by decide +kernel
theorem d_Memory_load_40 : decode b_Memory_load 40 = .ok (.iconst 0, 1) := by decide +kernel
theorem d_Memory_load_41 : decode b_Memory_load 41 = .ok (.goto 13, 3) := by decide +kernel
theorem d_Memory_load_44 : decode b_Memory_load 44 = .ok (.aload_n 0, 1) := by decide +kernel
theorem d_Memory_load_45 : decode b_Memory_load 45 = .ok (.getfield 12, 3) := by decide +kernel
theorem d_Memory_load_48 : decode b_Memory_load 48 = .ok (.getfield 75, 3) := by decide +kernel
theorem d_Memory_load_51 : decode b_Memory_load 51 = .ok (.iload 4, 2) := by decide +kernel
theorem d_Memory_load_53 : decode b_Memory_load 53 = .ok (.iaload, 1) := by decide +kernel
theorem d_Memory_load_54 : decode b_Memory_load 54 = .ok (.ireturn, 1) := by decide +kernel
theorem d_Memory_print_0 : decode b_Memory_print 0 = .ok (.aload_n 0, 1) := by decide +kernel
theorem d_Memory_print_1 : decode b_Memory_print 1 = .ok (.getfield 22, 3) := by decide +kernel
theorem d_Memory_print_4 : decode b_Memory_print 4 = .ok (.aload_n 0, 1) := by decide +kernel
theorem d_Memory_print_5 : decode b_Memory_print 5 = .ok (.getfield 18, 3) := by decide +kernel
theorem d_Memory_print_8 : decode b_Memory_print 8 = .ok (.arraylength, 1) := by decide +kernel
theorem d_Memory_print_9 : decode b_Memory_print 9 = .ok (.if_icmp .ge 24, 3) := by decide +kernel
theorem d_Memory_print_12 : decode b_Memory_print 12 = .ok (.aload_n 0, 1) := by decide +kernel
theorem d_Memory_print_13 : decode b_Memory_print 13 = .ok (.getfield 18, 3) := by decide +kernel
theorem d_Memory_print_16 : decode b_Memory_print 16 = .ok (.aload_n 0, 1) := by decide +kernel
theorem d_Memory_print_17 : decode b_Memory_print 17 = .ok (.getfield 22, 3) := by decide +kernel
theorem d_Memory_print_20 : decode b_Memory_print 20 = .ok (.iload_n 1, 1) := by decide +kernel
theorem d_Memory_print_21 : decode b_Memory_print 21 = .ok (.i2b, 1) := by decide +kernel
theorem d_Memory_print_22 : decode b_Memory_print 22 = .ok (.bastore, 1) := by decide +kernel
theorem d_Memory_print_23 : decode b_Memory_print 23 = .ok (.aload_n 0, 1) := by decide +kernel
theorem d_Memory_print_24 : decode b_Memory_print 24 = .ok (.dup, 1) := by decide +kernel
theorem d_Memory_print_25 : decode b_Memory_print 25 = .ok (.getfield 22, 3) := by decide +kernel
theorem d_Memory_print_28 : decode b_Memory_print 28 = .ok (.iconst 1, 1) := by decide +kernel
theorem d_Memory_print_29 : decode b_Memory_print 29 = .ok (.iadd, 1) := by decide +kernel
theorem d_Memory_print_30 : decode b_Memory_print 30 = .ok (.putfield 22, 3) := by decide +kernel
theorem d_Memory_print_33 : decode b_Memory_print 33 = .ok (.return_, 1) := by decide +kernel
theorem d_Memory_store_0 : decode b_Memory_store 0 = .ok (.aload_n 0, 1) := by decide +kernel
theorem d_Memory_store_1 : decode b_Memory_store 1 = .ok (.lload_n 1, 1) := by decide +kernel
theorem d_Memory_store_2 : decode b_Memory_store 2 = .ok (.invokevirtual 46, 3) := by decide +kernel
theorem d_Memory_store_5 : decode b_Memory_store 5 = .ok (.ifCond .eq 57, 3) := by decide +kernel
theorem d_Memory_store_8 : decode b_Memory_store 8 = .ok (.iload_n 3, 1) := by decide +kernel
theorem d_Memory_store_9 : decode b_Memory_store 9 = .ok (.invokestatic 71, 3) := by decide +kernel
theorem d_Memory_store_12 : decode b_Memory_store 12 = .ok (.lload_n 1, 1) := by decide +kernel
theorem d_Memory_store_13 : decode b_Memory_store 13 = .ok (.invokestatic 68, 3) := by decide +kernel
theorem d_Memory_store_16 : decode b_Memory_store 16 = .ok (.ishl, 1) := by decide +kernel
theorem d_Memory_store_17 : decode b_Memory_store 17 = .ok (.istore 5, 2) := by decide +kernel
theorem d_Memory_store_19 : decode b_Memory_store 19 = .ok (.lload_n 1, 1) := by decide +kernel
theorem d_Memory_store_20 : decode b_Memory_store 20 = .ok (.invokestatic 65, 3) := by decide +kernel
theorem d_Memory_store_23 : decode b_Memory_store 23 = .ok (.istore 6, 2) := by decide +kernel
theorem d_Memory_store_25 : decode b_Memory_store 25 = .ok (.aload_n 0, 1) := by decide +kernel
theorem d_Memory_store_26 : decode b_Memory_store 26 = .ok (.getfield 32, 3) := by decide +kernel
theorem d_Memory_store_29 : decode b_Memory_store 29 = .ok (.iload 6, 2) := by decide +kernel
theorem d_Memory_store_31 : decode b_Memory_store 31 = .ok (.aload_n 0, 1) := by decide +kernel
theorem d_Memory_store_32 : decode b_Memory_store 32 = .ok (.getfield 32, 3) := by decide +kernel
theorem d_Memory_store_35 : decode b_Memory_store 35 = .ok (.iload 6, 2) := by decide +kernel
theorem d_Memory_store_37 : decode b_Memory_store 37 = .ok (.iaload, 1) := by decide +kernel
theorem d_Memory_store_38 : decode b_Memory_store 38 = .ok (.iload 5, 2) := by decide +kernel
theorem d_Memory_store_40 : decode b_Memory_store 40 = .ok (.iconst (-1), 1) := by decide +kernel
theorem d_Memory_store_41 : decode b_Memory_store 41 = .ok (.ixor, 1) := by decide +kernel
theorem d_Memory_store_42 : decode b_Memory_store 42 = .ok (.iand, 1) := by decide +kernel
theorem d_Memory_store_43 : decode b_Memory_store 43 = .ok (.iload 4, 2) := by decide +kernel
theorem d_Memory_store_45 : decode b_Memory_store 45 = .ok (.lload_n 1, 1) := by decide +kernel
theorem d_Memory_store_46 : decode b_Memory_store 46 = .ok (.invokestatic 68, 3) := by decide +kernel
theorem d_Memory_store_49 : decode b_Memory_store 49 = .ok (.ishl, 1) := by decide +kernel
theorem d_Memory_store_50 : decode b_Memory_store 50 = .ok (.iload 5, 2) := by decide +kernel
theorem d_Memory_store_52 : decode b_Memory_store 52 = .ok (.iand, 1) := by decide +kernel
theorem d_Memory_store_53 : decode b_Memory_store 53 = .ok (.ior, 1) := by decide +kernel
theorem d_Memory_store_54 : decode b_Memory_store 54 = .ok (.iastore, 1) := by decide +kernel
theorem d_Memory_store_55 : decode b_Memory_store 55 = .ok (.aload_n 0, 1) := by decide +kernel
theorem d_Memory_store_56 : decode b_Memory_store 56 = .ok (.invokevirtual 39, 3) := by decide +kernel
theorem d_Memory_store_59 : decode b_Memory_store 59 = .ok (.goto 30, 3) := by decide +kernel
theorem d_Memory_store_62 : decode b_Memory_store 62 = .ok (.lload_n 1, 1) := by decide +kernel
theorem d_Memory_store_63 : decode b_Memory_store 63 = .ok (.ldc2_w 63, 3) := by decide +kernel
theorem d_Memory_store_66 : decode b_Memory_store 66 = .ok (.lcmp, 1) := by decide +kernel
theorem d_Memory_store_67 : decode b_Memory_store 67 = .ok (.ifCond .ne 12, 3) := by decide +kernel
theorem d_Memory_store_70 : decode b_Memory_store 70 = .ok (.aload_n 0, 1) := by decide +kernel
theorem d_Memory_store_71 : decode b_Memory_store 71 = .ok (.iload 4, 2) := by decide +kernel
theorem d_Memory_store_73 : decode b_Memory_store 73 = .ok (.invokevirtual 78, 3) := by decide +kernel
theorem d_Memory_store_76 : decode b_Memory_store 76 = .ok (.goto 13, 3) := by decide +kernel
theorem d_Memory_store_79 : decode b_Memory_store 79 = .ok (.aload_n 0, 1) := by decide +kernel
theorem d_Memory_store_80 : decode b_Memory_store 80 = .ok (.getfield 12, 3) := by decide +kernel
theorem d_Memory_store_83 : decode b_Memory_store 83 = .ok (.lload_n 1, 1) := by decide +kernel
theorem d_Memory_store_84 : decode b_Memory_store 84 = .ok (.iload 4, 2) := by decide +kernel
theorem d_Memory_store_86 : decode b_Memory_store 86 = .ok (.invokevirtual 82, 3) := by decide +kernel
theorem d_Memory_store_89 : decode b_Memory_store 89 = .ok (.return_, 1) := by decide +kernel
theorem d_Memory_storeIfClaimed_0 : decode b_Memory_storeIfClaimed 0 = .ok (.aload_n 0, 1) := by decide +kernel
theorem d_Memory_storeIfClaimed_1 : decode b_Memory_storeIfClaimed 1 = .ok (.getfield 28, 3) := by decide +kernel
theorem d_Memory_storeIfClaimed_4 : decode b_Memory_storeIfClaimed 4 = .ok (.iload_n 1, 1) := by decide +kernel
theorem d_Memory_storeIfClaimed_5 : decode b_Memory_storeIfClaimed 5 = .ok (.laload, 1) := by decide +kernel
theorem d_Memory_storeIfClaimed_6 : decode b_Memory_storeIfClaimed 6 = .ok (.lload_n 2, 1) := by decide +kernel
theorem d_Memory_storeIfClaimed_7 : decode b_Memory_storeIfClaimed 7 = .ok (.lcmp, 1) := by decide +kernel
theorem d_Memory_storeIfClaimed_8 : decode b_Memory_storeIfClaimed 8 = .ok (.ifCond .ne 7, 3) := by decide +kernel
theorem d_Memory_storeIfClaimed_11 : decode b_Memory_storeIfClaimed 11 = .ok (.iconst 1, 1) := by decide +kernel
theorem d_Memory_storeIfClaimed_12 : decode b_Memory_storeIfClaimed 12 = .ok (.goto 4, 3) := by decide +kernel
theorem d_Memory_storeIfClaimed_15 : decode b_Memory_storeIfClaimed 15 = .ok (.iconst 0, 1) := by decide +kernel
theorem d_Memory_storeIfClaimed_16 : decode b_Memory_storeIfClaimed 16 = .ok (.istore 5, 2) := by decide +kernel
theorem d_Memory_storeIfClaimed_18 : decode b_Memory_storeIfClaimed 18 = .ok (.aload_n 0, 1) := by decide +kernel
theorem d_Memory_storeIfClaimed_19 : decode b_Memory_storeIfClaimed 19 = .ok (.getfield 28, 3) := by decide +kernel
theorem d_Memory_storeIfClaimed_22 : decode b_Memory_storeIfClaimed 22 = .ok (.iload_n 1, 1) := by decide +kernel
theorem d_Memory_storeIfClaimed_23 : decode b_Memory_storeIfClaimed 23 = .ok (.ldc2_w 26, 3) := by decide +kernel
theorem d_Memory_storeIfClaimed_26 : decode b_Memory_storeIfClaimed 26 = .ok (.lastore, 1) := by decide +kernel
theorem d_Memory_storeIfClaimed_27 : decode b_Memory_storeIfClaimed 27 = .ok (.iload 5, 2) := by decide +kernel
theorem d_Memory_storeIfClaimed_29 : decode b_Memory_storeIfClaimed 29 = .ok (.ifCond .eq 11, 3) := by decide +kernel
theorem d_Memory_storeIfClaimed_32 : decode b_Memory_storeIfClaimed 32 = .ok (.aload_n 0, 1) := by decide +kernel
theorem d_Memory_storeIfClaimed_33 : decode b_Memory_storeIfClaimed 33 = .ok (.lload_n 2, 1) := by decide +kernel
theorem d_Memory_storeIfClaimed_34 : decode b_Memory_storeIfClaimed 34 = .ok (.iconst 4, 1) := by decide +kernel
theorem d_Memory_storeIfClaimed_35 : decode b_Memory_storeIfClaimed 35 = .ok (.iload 4, 2) := by decide +kernel
theorem d_Memory_storeIfClaimed_37 : decode b_Memory_storeIfClaimed 37 = .ok (.invokevirtual 86, 3) := by decide +kernel
theorem d_Memory_storeIfClaimed_40 : decode b_Memory_storeIfClaimed 40 = .ok (.iload 5, 2) := by decide +kernel
theorem d_Memory_storeIfClaimed_42 : decode b_Memory_storeIfClaimed 42 = .ok (.ireturn, 1) := by decide +kernel
theorem d_Memory_claim_0 : decode b_Memory_claim 0 = .ok (.aload_n 0, 1) := by decide +kernel
theorem d_Memory_claim_1 : decode b_Memory_claim 1 = .ok (.getfield 28, 3) := by decide +kernel
theorem d_Memory_claim_4 : decode b_Memory_claim 4 = .ok (.iload_n 1, 1) := by decide +kernel
theorem d_Memory_claim_5 : decode b_Memory_claim 5 = .ok (.lload_n 2, 1) := by decide +kernel
theorem d_Memory_claim_6 : decode b_Memory_claim 6 = .ok (.lastore, 1) := by decide +kernel
theorem d_Memory_claim_7 : decode b_Memory_claim 7 = .ok (.return_, 1) := by decide +kernel
