theorem d_Clint_restart_0 : decode b_Clint_restart 0 = .ok (.iconst 0, 1) := by decide +kernel
theorem d_Clint_restart_1 : decode b_Clint_restart 1 = .ok (.istore_n 1, 1) := by decide +kernel
theorem d_Clint_restart_2 : decode b_Clint_restart 2 = .ok (.iload_n 1, 1) := by decide +kernel
theorem d_Clint_restart_3 : decode b_Clint_restart 3 = .ok (.aload_n 0, 1) := by decide +kernel
theorem d_Clint_restart_4 : decode b_Clint_restart 4 = .ok (.getfield 9, 3) := by decide +kernel
theorem d_Clint_restart_7 : decode b_Clint_restart 7 = .ok (.arraylength, 1) := by decide +kernel
theorem d_Clint_restart_8 : decode b_Clint_restart 8 = .ok (.if_icmp .ge 31, 3) := by decide +kernel
theorem d_Clint_restart_11 : decode b_Clint_restart 11 = .ok (.aload_n 0, 1) := by decide +kernel
theorem d_Clint_restart_12 : decode b_Clint_restart 12 = .ok (.getfield 9, 3) := by decide +kernel
theorem d_Clint_restart_15 : decode b_Clint_restart 15 = .ok (.iload_n 1, 1) := by decide +kernel
theorem d_Clint_restart_16 : decode b_Clint_restart 16 = .ok (.iload_n 1, 1) := by decide +kernel
theorem d_Clint_restart_17 : decode b_Clint_restart 17 = .ok (.iconst 2, 1) := by decide +kernel
theorem d_Clint_restart_18 : decode b_Clint_restart 18 = .ok (.if_icmp .lt 13, 3) := by decide +kernel
theorem d_Clint_restart_21 : decode b_Clint_restart 21 = .ok (.iload_n 1, 1) := by decide +kernel
theorem d_Clint_restart_22 : decode b_Clint_restart 22 = .ok (.bipush 6, 2) := by decide +kernel
theorem d_Clint_restart_24 : decode b_Clint_restart 24 = .ok (.if_icmp .ge 7, 3) := by decide +kernel
theorem d_Clint_restart_27 : decode b_Clint_restart 27 = .ok (.iconst (-1), 1) := by decide +kernel
theorem d_Clint_restart_28 : decode b_Clint_restart 28 = .ok (.goto 4, 3) := by decide +kernel
theorem d_Clint_restart_31 : decode b_Clint_restart 31 = .ok (.iconst 0, 1) := by decide +kernel
theorem d_Clint_restart_32 : decode b_Clint_restart 32 = .ok (.iastore, 1) := by decide +kernel
theorem d_Clint_restart_33 : decode b_Clint_restart 33 = .ok (.iinc 1 1, 3) := by decide +kernel
theorem d_Clint_restart_36 : decode b_Clint_restart 36 = .ok (.goto (-34), 3) := by decide +kernel
theorem d_Clint_restart_39 : decode b_Clint_restart 39 = .ok (.return_, 1) := by decide +kernel
theorem d_Clint_isBelow_0 : decode b_Clint_isBelow 0 = .ok (.aload_n 0, 1) := by decide +kernel
theorem d_Clint_isBelow_1 : decode b_Clint_isBelow 1 = .ok (.getfield 9, 3) := by decide +kernel
theorem d_Clint_isBelow_4 : decode b_Clint_isBelow 4 = .ok (.iload_n 1, 1) := by decide +kernel
theorem d_Clint_isBelow_5 : decode b_Clint_isBelow 5 = .ok (.iconst 1, 1) := by decide +kernel
theorem d_Clint_isBelow_6 : decode b_Clint_isBelow 6 = .ok (.iadd, 1) := by decide +kernel
theorem d_Clint_isBelow_7 : decode b_Clint_isBelow 7 = .ok (.iaload, 1) := by decide +kernel
theorem d_Clint_isBelow_8 : decode b_Clint_isBelow 8 = .ok (.aload_n 0, 1) := by decide +kernel
theorem d_Clint_isBelow_9 : decode b_Clint_isBelow 9 = .ok (.getfield 9, 3) := by decide +kernel
theorem d_Clint_isBelow_12 : decode b_Clint_isBelow 12 = .ok (.iload_n 2, 1) := by decide +kernel
theorem d_Clint_isBelow_13 : decode b_Clint_isBelow 13 = .ok (.iconst 1, 1) := by decide +kernel
theorem d_Clint_isBelow_14 : decode b_Clint_isBelow 14 = .ok (.iadd, 1) := by decide +kernel
theorem d_Clint_isBelow_15 : decode b_Clint_isBelow 15 = .ok (.iaload, 1) := by decide +kernel
theorem d_Clint_isBelow_16 : decode b_Clint_isBelow 16 = .ok (.if_icmp .eq 23, 3) := by decide +kernel
theorem d_Clint_isBelow_19 : decode b_Clint_isBelow 19 = .ok (.aload_n 0, 1) := by decide +kernel
theorem d_Clint_isBelow_20 : decode b_Clint_isBelow 20 = .ok (.getfield 9, 3) := by decide +kernel
theorem d_Clint_isBelow_23 : decode b_Clint_isBelow 23 = .ok (.iload_n 1, 1) := by decide +kernel
theorem d_Clint_isBelow_24 : decode b_Clint_isBelow 24 = .ok (.iconst 1, 1) := by decide +kernel
theorem d_Clint_isBelow_25 : decode b_Clint_isBelow 25 = .ok (.iadd, 1) := by decide +kernel
theorem d_Clint_isBelow_26 : decode b_Clint_isBelow 26 = .ok (.iaload, 1) := by decide +kernel
theorem d_Clint_isBelow_27 : decode b_Clint_isBelow 27 = .ok (.aload_n 0, 1) := by decide +kernel
theorem d_Clint_isBelow_28 : decode b_Clint_isBelow 28 = .ok (.getfield 9, 3) := by decide +kernel
theorem d_Clint_isBelow_31 : decode b_Clint_isBelow 31 = .ok (.iload_n 2, 1) := by decide +kernel
theorem d_Clint_isBelow_32 : decode b_Clint_isBelow 32 = .ok (.iconst 1, 1) := by decide +kernel
theorem d_Clint_isBelow_33 : decode b_Clint_isBelow 33 = .ok (.iadd, 1) := by decide +kernel
theorem d_Clint_isBelow_34 : decode b_Clint_isBelow 34 = .ok (.iaload, 1) := by decide +kernel
theorem d_Clint_isBelow_35 : decode b_Clint_isBelow 35 = .ok (.invokestatic 22, 3) := by decide +kernel
theorem d_Clint_isBelow_38 : decode b_Clint_isBelow 38 = .ok (.ireturn, 1) := by decide +kernel
theorem d_Clint_isBelow_39 : decode b_Clint_isBelow 39 = .ok (.aload_n 0, 1) := by decide +kernel
theorem d_Clint_isBelow_40 : decode b_Clint_isBelow 40 = .ok (.getfield 9, 3) := by decide +kernel
theorem d_Clint_isBelow_43 : decode b_Clint_isBelow 43 = .ok (.iload_n 1, 1) := by decide +kernel
theorem d_Clint_isBelow_44 : decode b_Clint_isBelow 44 = .ok (.iaload, 1) := by decide +kernel
theorem d_Clint_isBelow_45 : decode b_Clint_isBelow 45 = .ok (.aload_n 0, 1) := by decide +kernel
theorem d_Clint_isBelow_46 : decode b_Clint_isBelow 46 = .ok (.getfield 9, 3) := by decide +kernel
theorem d_Clint_isBelow_49 : decode b_Clint_isBelow 49 = .ok (.iload_n 2, 1) := by decide +kernel
theorem d_Clint_isBelow_50 : decode b_Clint_isBelow 50 = .ok (.iaload, 1) := by decide +kernel
theorem d_Clint_isBelow_51 : decode b_Clint_isBelow 51 = .ok (.invokestatic 22, 3) := by decide +kernel
theorem d_Clint_isBelow_54 : decode b_Clint_isBelow 54 = .ok (.ireturn, 1) := by decide +kernel
theorem d_Clint_lines_0 : decode b_Clint_lines 0 = .ok (.aload_n 0, 1) := by decide +kernel
theorem d_Clint_lines_1 : decode b_Clint_lines 1 = .ok (.getfield 9, 3) := by decide +kernel
theorem d_Clint_lines_4 : decode b_Clint_lines 4 = .ok (.iload_n 1, 1) := by decide +kernel
theorem d_Clint_lines_5 : decode b_Clint_lines 5 = .ok (.iaload, 1) := by decide +kernel
theorem d_Clint_lines_6 : decode b_Clint_lines 6 = .ok (.ifCond .eq 8, 3) := by decide +kernel
theorem d_Clint_lines_9 : decode b_Clint_lines 9 = .ok (.bipush 8, 2) := by decide +kernel
theorem d_Clint_lines_11 : decode b_Clint_lines 11 = .ok (.goto 4, 3) := by decide +kernel
theorem d_Clint_lines_14 : decode b_Clint_lines 14 = .ok (.iconst 0, 1) := by decide +kernel
theorem d_Clint_lines_15 : decode b_Clint_lines 15 = .ok (.istore_n 2, 1) := by decide +kernel
theorem d_Clint_lines_16 : decode b_Clint_lines 16 = .ok (.aload_n 0, 1) := by decide +kernel
theorem d_Clint_lines_17 : decode b_Clint_lines 17 = .ok (.bipush 6, 2) := by decide +kernel
theorem d_Clint_lines_19 : decode b_Clint_lines 19 = .ok (.iconst 2, 1) := by decide +kernel
theorem d_Clint_lines_20 : decode b_Clint_lines 20 = .ok (.iconst 2, 1) := by decide +kernel
theorem d_Clint_lines_21 : decode b_Clint_lines 21 = .ok (.iload_n 1, 1) := by decide +kernel
theorem d_Clint_lines_22 : decode b_Clint_lines 22 = .ok (.imul, 1) := by decide +kernel
theorem d_Clint_lines_23 : decode b_Clint_lines 23 = .ok (.iadd, 1) := by decide +kernel
theorem d_Clint_lines_24 : decode b_Clint_lines 24 = .ok (.invokevirtual 18, 3) := by decide +kernel
theorem d_Clint_lines_27 : decode b_Clint_lines 27 = .ok (.istore_n 3, 1) := by decide +kernel
theorem d_Clint_lines_28 : decode b_Clint_lines 28 = .ok (.iload_n 3, 1) := by decide +kernel
theorem d_Clint_lines_29 : decode b_Clint_lines 29 = .ok (.ifCond .eq 7, 3) := by decide +kernel
theorem d_Clint_lines_32 : decode b_Clint_lines 32 = .ok (.iload_n 2, 1) := by decide +kernel
theorem d_Clint_lines_33 : decode b_Clint_lines 33 = .ok (.goto 8, 3) := by decide +kernel
theorem d_Clint_lines_36 : decode b_Clint_lines 36 = .ok (.iload_n 2, 1) := by decide +kernel
theorem d_Clint_lines_37 : decode b_Clint_lines 37 = .ok (.sipush 128, 3) := by decide +kernel
theorem d_Clint_lines_40 : decode b_Clint_lines 40 = .ok (.ior, 1) := by decide +kernel
theorem d_Clint_lines_41 : decode b_Clint_lines 41 = .ok (.ireturn, 1) := by decide +kernel
theorem d_Clint_slotAt_0 : decode b_Clint_slotAt 0 = .ok (.lload_n 0, 1) := by decide +kernel
theorem d_Clint_slotAt_1 : decode b_Clint_slotAt 1 = .ok (.ldc2_w 27, 3) := by decide +kernel
theorem d_Clint_slotAt_4 : decode b_Clint_slotAt 4 = .ok (.lcmp, 1) := by decide +kernel
theorem d_Clint_slotAt_5 : decode b_Clint_slotAt 5 = .ok (.ifCond .lt 20, 3) := by decide +kernel
theorem d_Clint_slotAt_8 : decode b_Clint_slotAt 8 = .ok (.lload_n 0, 1) := by decide +kernel
theorem d_Clint_slotAt_9 : decode b_Clint_slotAt 9 = .ok (.ldc2_w 29, 3) := by decide +kernel
theorem d_Clint_slotAt_12 : decode b_Clint_slotAt 12 = .ok (.lcmp, 1) := by decide +kernel
theorem d_Clint_slotAt_13 : decode b_Clint_slotAt 13 = .ok (.ifCond .ge 12, 3) := by decide +kernel
theorem d_Clint_slotAt_16 : decode b_Clint_slotAt 16 = .ok (.lload_n 0, 1) := by decide +kernel
theorem d_Clint_slotAt_17 : decode b_Clint_slotAt 17 = .ok (.ldc2_w 27, 3) := by decide +kernel
theorem d_Clint_slotAt_20 : decode b_Clint_slotAt 20 = .ok (.lsub, 1) := by decide +kernel
theorem d_Clint_slotAt_21 : decode b_Clint_slotAt 21 = .ok (.l2i, 1) := by decide +kernel
theorem d_Clint_slotAt_22 : decode b_Clint_slotAt 22 = .ok (.iconst 2, 1) := by decide +kernel
theorem d_Clint_slotAt_23 : decode b_Clint_slotAt 23 = .ok (.ishr, 1) := by decide +kernel
theorem d_Clint_slotAt_24 : decode b_Clint_slotAt 24 = .ok (.ireturn, 1) := by decide +kernel
theorem d_Clint_slotAt_25 : decode b_Clint_slotAt 25 = .ok (.lload_n 0, 1) := by decide +kernel
theorem d_Clint_slotAt_26 : decode b_Clint_slotAt 26 = .ok (.ldc2_w 31, 3) := by decide +kernel
theorem d_Clint_slotAt_29 : decode b_Clint_slotAt 29 = .ok (.lcmp, 1) := by decide +kernel
theorem d_Clint_slotAt_30 : decode b_Clint_slotAt 30 = .ok (.ifCond .lt 22, 3) := by decide +kernel
theorem d_Clint_slotAt_33 : decode b_Clint_slotAt 33 = .ok (.lload_n 0, 1) := by decide +kernel
theorem d_Clint_slotAt_34 : decode b_Clint_slotAt 34 = .ok (.ldc2_w 33, 3) := by decide +kernel
theorem d_Clint_slotAt_37 : decode b_Clint_slotAt 37 = .ok (.lcmp, 1) := by decide +kernel
theorem d_Clint_slotAt_38 : decode b_Clint_slotAt 38 = .ok (.ifCond .ge 14, 3) := by decide +kernel
theorem d_Clint_slotAt_41 : decode b_Clint_slotAt 41 = .ok (.iconst 2, 1) := by decide +kernel
theorem d_Clint_slotAt_42 : decode b_Clint_slotAt 42 = .ok (.lload_n 0, 1) := by decide +kernel
theorem d_Clint_slotAt_43 : decode b_Clint_slotAt 43 = .ok (.ldc2_w 31, 3) := by decide +kernel
theorem d_Clint_slotAt_46 : decode b_Clint_slotAt 46 = .ok (.lsub, 1) := by decide +kernel
theorem d_Clint_slotAt_47 : decode b_Clint_slotAt 47 = .ok (.l2i, 1) := by decide +kernel
theorem d_Clint_slotAt_48 : decode b_Clint_slotAt 48 = .ok (.iconst 2, 1) := by decide +kernel
theorem d_Clint_slotAt_49 : decode b_Clint_slotAt 49 = .ok (.ishr, 1) := by decide +kernel
theorem d_Clint_slotAt_50 : decode b_Clint_slotAt 50 = .ok (.iadd, 1) := by decide +kernel
theorem d_Clint_slotAt_51 : decode b_Clint_slotAt 51 = .ok (.ireturn, 1) := by decide +kernel
theorem d_Clint_slotAt_52 : decode b_Clint_slotAt 52 = .ok (.lload_n 0, 1) := by decide +kernel
theorem d_Clint_slotAt_53 : decode b_Clint_slotAt 53 = .ok (.ldc2_w 35, 3) := by decide +kernel
theorem d_Clint_slotAt_56 : decode b_Clint_slotAt 56 = .ok (.lcmp, 1) := by decide +kernel
theorem d_Clint_slotAt_57 : decode b_Clint_slotAt 57 = .ok (.ifCond .lt 23, 3) := by decide +kernel
theorem d_Clint_slotAt_60 : decode b_Clint_slotAt 60 = .ok (.lload_n 0, 1) := by decide +kernel
theorem d_Clint_slotAt_61 : decode b_Clint_slotAt 61 = .ok (.ldc2_w 37, 3) := by decide +kernel
theorem d_Clint_slotAt_64 : decode b_Clint_slotAt 64 = .ok (.lcmp, 1) := by decide +kernel
theorem d_Clint_slotAt_65 : decode b_Clint_slotAt 65 = .ok (.ifCond .ge 15, 3) := by decide +kernel
theorem d_Clint_slotAt_68 : decode b_Clint_slotAt 68 = .ok (.bipush 6, 2) := by decide +kernel
theorem d_Clint_slotAt_70 : decode b_Clint_slotAt 70 = .ok (.lload_n 0, 1) := by decide +kernel
theorem d_Clint_slotAt_71 : decode b_Clint_slotAt 71 = .ok (.ldc2_w 35, 3) := by decide +kernel
theorem d_Clint_slotAt_74 : decode b_Clint_slotAt 74 = .ok (.lsub, 1) := by decide +kernel
theorem d_Clint_slotAt_75 : decode b_Clint_slotAt 75 = .ok (.l2i, 1) := by decide +kernel
theorem d_Clint_slotAt_76 : decode b_Clint_slotAt 76 = .ok (.iconst 2, 1) := by decide +kernel
theorem d_Clint_slotAt_77 : decode b_Clint_slotAt 77 = .ok (.ishr, 1) := by decide +kernel
theorem d_Clint_slotAt_78 : decode b_Clint_slotAt 78 = .ok (.iadd, 1) := by decide +kernel
theorem d_Clint_slotAt_79 : decode b_Clint_slotAt 79 = .ok (.ireturn, 1) := by decide +kernel
theorem d_Clint_slotAt_80 : decode b_Clint_slotAt 80 = .ok (.iconst (-1), 1) := by decide +kernel
theorem d_Clint_slotAt_81 : decode b_Clint_slotAt 81 = .ok (.ireturn, 1) := by decide +kernel
theorem d_Clint_store_0 : decode b_Clint_store 0 = .ok (.lload_n 1, 1) := by decide +kernel
theorem d_Clint_store_1 : decode b_Clint_store 1 = .ok (.invokestatic 39, 3) := by decide +kernel
theorem d_Clint_store_4 : decode b_Clint_store 4 = .ok (.istore 4, 2) := by decide +kernel
theorem d_Clint_store_6 : decode b_Clint_store 6 = .ok (.iload 4, 2) := by decide +kernel
theorem d_Clint_store_8 : decode b_Clint_store 8 = .ok (.iconst (-1), 1) := by decide +kernel
theorem d_Clint_store_9 : decode b_Clint_store 9 = .ok (.if_icmp .eq 23, 3) := by decide +kernel
theorem d_Clint_store_12 : decode b_Clint_store 12 = .ok (.aload_n 0, 1) := by decide +kernel
theorem d_Clint_store_13 : decode b_Clint_store 13 = .ok (.getfield 9, 3) := by decide +kernel
theorem d_Clint_store_16 : decode b_Clint_store 16 = .ok (.iload 4, 2) := by decide +kernel
theorem d_Clint_store_18 : decode b_Clint_store 18 = .ok (.iload 4, 2) := by decide +kernel
theorem d_Clint_store_20 : decode b_Clint_store 20 = .ok (.iconst 2, 1) := by decide +kernel
theorem d_Clint_store_21 : decode b_Clint_store 21 = .ok (.if_icmp .ge 9, 3) := by decide +kernel
theorem d_Clint_store_24 : decode b_Clint_store 24 = .ok (.iload_n 3, 1) := by decide +kernel
theorem d_Clint_store_25 : decode b_Clint_store 25 = .ok (.iconst 1, 1) := by decide +kernel
theorem d_Clint_store_26 : decode b_Clint_store 26 = .ok (.iand, 1) := by decide +kernel
theorem d_Clint_store_27 : decode b_Clint_store 27 = .ok (.goto 4, 3) := by decide +kernel
theorem d_Clint_store_30 : decode b_Clint_store 30 = .ok (.iload_n 3, 1) := by decide +kernel
theorem d_Clint_store_31 : decode b_Clint_store 31 = .ok (.iastore, 1) := by decide +kernel
theorem d_Clint_store_32 : decode b_Clint_store 32 = .ok (.return_, 1) := by decide +kernel
theorem d_Clint_advance_0 : decode b_Clint_advance 0 = .ok (.aload_n 0, 1) := by decide +kernel
theorem d_Clint_advance_1 : decode b_Clint_advance 1 = .ok (.getfield 9, 3) := by decide +kernel
theorem d_Clint_advance_4 : decode b_Clint_advance 4 = .ok (.bipush 6, 2) := by decide +kernel
theorem d_Clint_advance_6 : decode b_Clint_advance 6 = .ok (.dup2, 1) := by decide +kernel
theorem d_Clint_advance_7 : decode b_Clint_advance 7 = .ok (.iaload, 1) := by decide +kernel
theorem d_Clint_advance_8 : decode b_Clint_advance 8 = .ok (.iconst 1, 1) := by decide +kernel
theorem d_Clint_advance_9 : decode b_Clint_advance 9 = .ok (.iadd, 1) := by decide +kernel
theorem d_Clint_advance_10 : decode b_Clint_advance 10 = .ok (.iastore, 1) := by decide +kernel
theorem d_Clint_advance_11 : decode b_Clint_advance 11 = .ok (.aload_n 0, 1) := by decide +kernel
theorem d_Clint_advance_12 : decode b_Clint_advance 12 = .ok (.getfield 9, 3) := by decide +kernel
theorem d_Clint_advance_15 : decode b_Clint_advance 15 = .ok (.bipush 6, 2) := by decide +kernel
theorem d_Clint_advance_17 : decode b_Clint_advance 17 = .ok (.iaload, 1) := by decide +kernel
theorem d_Clint_advance_18 : decode b_Clint_advance 18 = .ok (.ifCond .ne 14, 3) := by decide +kernel
theorem d_Clint_advance_21 : decode b_Clint_advance 21 = .ok (.aload_n 0, 1) := by decide +kernel
theorem d_Clint_advance_22 : decode b_Clint_advance 22 = .ok (.getfield 9, 3) := by decide +kernel
theorem d_Clint_advance_25 : decode b_Clint_advance 25 = .ok (.bipush 7, 2) := by decide +kernel
theorem d_Clint_advance_27 : decode b_Clint_advance 27 = .ok (.dup2, 1) := by decide +kernel
theorem d_Clint_advance_28 : decode b_Clint_advance 28 = .ok (.iaload, 1) := by decide +kernel
theorem d_Clint_advance_29 : decode b_Clint_advance 29 = .ok (.iconst 1, 1) := by decide +kernel
theorem d_Clint_advance_30 : decode b_Clint_advance 30 = .ok (.iadd, 1) := by decide +kernel
theorem d_Clint_advance_31 : decode b_Clint_advance 31 = .ok (.iastore, 1) := by decide +kernel
theorem d_Clint_advance_32 : decode b_Clint_advance 32 = .ok (.return_, 1) := by decide +kernel
