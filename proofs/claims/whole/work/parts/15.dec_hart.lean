theorem d_Hart_restart_0 : decode b_Hart_restart 0 = .ok (.iconst 0, 1) := by decide +kernel
theorem d_Hart_restart_1 : decode b_Hart_restart 1 = .ok (.istore_n 1, 1) := by decide +kernel
theorem d_Hart_restart_2 : decode b_Hart_restart 2 = .ok (.iload_n 1, 1) := by decide +kernel
theorem d_Hart_restart_3 : decode b_Hart_restart 3 = .ok (.aload_n 0, 1) := by decide +kernel
theorem d_Hart_restart_4 : decode b_Hart_restart 4 = .ok (.getfield 9, 3) := by decide +kernel
theorem d_Hart_restart_7 : decode b_Hart_restart 7 = .ok (.arraylength, 1) := by decide +kernel
theorem d_Hart_restart_8 : decode b_Hart_restart 8 = .ok (.if_icmp .ge 16, 3) := by decide +kernel
theorem d_Hart_restart_11 : decode b_Hart_restart 11 = .ok (.aload_n 0, 1) := by decide +kernel
theorem d_Hart_restart_12 : decode b_Hart_restart 12 = .ok (.getfield 9, 3) := by decide +kernel
theorem d_Hart_restart_15 : decode b_Hart_restart 15 = .ok (.iload_n 1, 1) := by decide +kernel
theorem d_Hart_restart_16 : decode b_Hart_restart 16 = .ok (.iconst 0, 1) := by decide +kernel
theorem d_Hart_restart_17 : decode b_Hart_restart 17 = .ok (.iastore, 1) := by decide +kernel
theorem d_Hart_restart_18 : decode b_Hart_restart 18 = .ok (.iinc 1 1, 3) := by decide +kernel
theorem d_Hart_restart_21 : decode b_Hart_restart 21 = .ok (.goto (-19), 3) := by decide +kernel
theorem d_Hart_restart_24 : decode b_Hart_restart 24 = .ok (.aload_n 0, 1) := by decide +kernel
theorem d_Hart_restart_25 : decode b_Hart_restart 25 = .ok (.getfield 34, 3) := by decide +kernel
theorem d_Hart_restart_28 : decode b_Hart_restart 28 = .ok (.invokevirtual 38, 3) := by decide +kernel
theorem d_Hart_restart_31 : decode b_Hart_restart 31 = .ok (.aload_n 0, 1) := by decide +kernel
theorem d_Hart_restart_32 : decode b_Hart_restart 32 = .ok (.ldc 15, 2) := by decide +kernel
theorem d_Hart_restart_34 : decode b_Hart_restart 34 = .ok (.putfield 16, 3) := by decide +kernel
theorem d_Hart_restart_37 : decode b_Hart_restart 37 = .ok (.aload_n 0, 1) := by decide +kernel
theorem d_Hart_restart_38 : decode b_Hart_restart 38 = .ok (.iconst 3, 1) := by decide +kernel
theorem d_Hart_restart_39 : decode b_Hart_restart 39 = .ok (.putfield 20, 3) := by decide +kernel
theorem d_Hart_restart_42 : decode b_Hart_restart 42 = .ok (.return_, 1) := by decide +kernel
theorem d_Hart_take_0 : decode b_Hart_take 0 = .ok (.iload_n 3, 1) := by decide +kernel
theorem d_Hart_take_1 : decode b_Hart_take 1 = .ok (.ifCond .eq 32, 3) := by decide +kernel
theorem d_Hart_take_4 : decode b_Hart_take 4 = .ok (.aload_n 0, 1) := by decide +kernel
theorem d_Hart_take_5 : decode b_Hart_take 5 = .ok (.aload_n 0, 1) := by decide +kernel
theorem d_Hart_take_6 : decode b_Hart_take 6 = .ok (.getfield 34, 3) := by decide +kernel
theorem d_Hart_take_9 : decode b_Hart_take 9 = .ok (.aload_n 0, 1) := by decide +kernel
theorem d_Hart_take_10 : decode b_Hart_take 10 = .ok (.getfield 16, 3) := by decide +kernel
theorem d_Hart_take_13 : decode b_Hart_take 13 = .ok (.iload_n 1, 1) := by decide +kernel
theorem d_Hart_take_14 : decode b_Hart_take 14 = .ok (.iload_n 2, 1) := by decide +kernel
theorem d_Hart_take_15 : decode b_Hart_take 15 = .ok (.aload_n 0, 1) := by decide +kernel
theorem d_Hart_take_16 : decode b_Hart_take 16 = .ok (.getfield 20, 3) := by decide +kernel
theorem d_Hart_take_19 : decode b_Hart_take 19 = .ok (.invokevirtual 156, 3) := by decide +kernel
theorem d_Hart_take_22 : decode b_Hart_take 22 = .ok (.putfield 16, 3) := by decide +kernel
theorem d_Hart_take_25 : decode b_Hart_take 25 = .ok (.aload_n 0, 1) := by decide +kernel
theorem d_Hart_take_26 : decode b_Hart_take 26 = .ok (.iconst 1, 1) := by decide +kernel
theorem d_Hart_take_27 : decode b_Hart_take 27 = .ok (.putfield 20, 3) := by decide +kernel
theorem d_Hart_take_30 : decode b_Hart_take 30 = .ok (.goto 29, 3) := by decide +kernel
theorem d_Hart_take_33 : decode b_Hart_take 33 = .ok (.aload_n 0, 1) := by decide +kernel
theorem d_Hart_take_34 : decode b_Hart_take 34 = .ok (.aload_n 0, 1) := by decide +kernel
theorem d_Hart_take_35 : decode b_Hart_take 35 = .ok (.getfield 34, 3) := by decide +kernel
theorem d_Hart_take_38 : decode b_Hart_take 38 = .ok (.aload_n 0, 1) := by decide +kernel
theorem d_Hart_take_39 : decode b_Hart_take 39 = .ok (.getfield 16, 3) := by decide +kernel
theorem d_Hart_take_42 : decode b_Hart_take 42 = .ok (.iload_n 1, 1) := by decide +kernel
theorem d_Hart_take_43 : decode b_Hart_take 43 = .ok (.iload_n 2, 1) := by decide +kernel
theorem d_Hart_take_44 : decode b_Hart_take 44 = .ok (.aload_n 0, 1) := by decide +kernel
theorem d_Hart_take_45 : decode b_Hart_take 45 = .ok (.getfield 20, 3) := by decide +kernel
theorem d_Hart_take_48 : decode b_Hart_take 48 = .ok (.invokevirtual 160, 3) := by decide +kernel
theorem d_Hart_take_51 : decode b_Hart_take 51 = .ok (.putfield 16, 3) := by decide +kernel
theorem d_Hart_take_54 : decode b_Hart_take 54 = .ok (.aload_n 0, 1) := by decide +kernel
theorem d_Hart_take_55 : decode b_Hart_take 55 = .ok (.iconst 3, 1) := by decide +kernel
theorem d_Hart_take_56 : decode b_Hart_take 56 = .ok (.putfield 20, 3) := by decide +kernel
theorem d_Hart_take_59 : decode b_Hart_take 59 = .ok (.return_, 1) := by decide +kernel
theorem d_Hart_locate_0 : decode b_Hart_locate 0 = .ok (.iload_n 1, 1) := by decide +kernel
theorem d_Hart_locate_1 : decode b_Hart_locate 1 = .ok (.iload_n 2, 1) := by decide +kernel
theorem d_Hart_locate_2 : decode b_Hart_locate 2 = .ok (.iconst 1, 1) := by decide +kernel
theorem d_Hart_locate_3 : decode b_Hart_locate 3 = .ok (.isub, 1) := by decide +kernel
theorem d_Hart_locate_4 : decode b_Hart_locate 4 = .ok (.iand, 1) := by decide +kernel
theorem d_Hart_locate_5 : decode b_Hart_locate 5 = .ok (.ifCond .eq 11, 3) := by decide +kernel
theorem d_Hart_locate_8 : decode b_Hart_locate 8 = .ok (.aload_n 3, 1) := by decide +kernel
theorem d_Hart_locate_9 : decode b_Hart_locate 9 = .ok (.getfield 163, 3) := by decide +kernel
theorem d_Hart_locate_12 : decode b_Hart_locate 12 = .ok (.invokestatic 166, 3) := by decide +kernel
theorem d_Hart_locate_15 : decode b_Hart_locate 15 = .ok (.lreturn, 1) := by decide +kernel
theorem d_Hart_locate_16 : decode b_Hart_locate 16 = .ok (.aload_n 3, 1) := by decide +kernel
theorem d_Hart_locate_17 : decode b_Hart_locate 17 = .ok (.getstatic 65, 3) := by decide +kernel
theorem d_Hart_locate_20 : decode b_Hart_locate 20 = .ok (.if_acmp .ne 10, 3) := by decide +kernel
theorem d_Hart_locate_23 : decode b_Hart_locate 23 = .ok (.aload_n 0, 1) := by decide +kernel
theorem d_Hart_locate_24 : decode b_Hart_locate 24 = .ok (.getfield 20, 3) := by decide +kernel
theorem d_Hart_locate_27 : decode b_Hart_locate 27 = .ok (.goto 14, 3) := by decide +kernel
theorem d_Hart_locate_30 : decode b_Hart_locate 30 = .ok (.aload_n 0, 1) := by decide +kernel
theorem d_Hart_locate_31 : decode b_Hart_locate 31 = .ok (.getfield 34, 3) := by decide +kernel
theorem d_Hart_locate_34 : decode b_Hart_locate 34 = .ok (.aload_n 0, 1) := by decide +kernel
theorem d_Hart_locate_35 : decode b_Hart_locate 35 = .ok (.getfield 20, 3) := by decide +kernel
theorem d_Hart_locate_38 : decode b_Hart_locate 38 = .ok (.invokevirtual 170, 3) := by decide +kernel
theorem d_Hart_locate_41 : decode b_Hart_locate 41 = .ok (.istore 5, 2) := by decide +kernel
theorem d_Hart_locate_43 : decode b_Hart_locate 43 = .ok (.iload_n 1, 1) := by decide +kernel
theorem d_Hart_locate_44 : decode b_Hart_locate 44 = .ok (.i2l, 1) := by decide +kernel
theorem d_Hart_locate_45 : decode b_Hart_locate 45 = .ok (.ldc2_w 173, 3) := by decide +kernel
theorem d_Hart_locate_48 : decode b_Hart_locate 48 = .ok (.land, 1) := by decide +kernel
theorem d_Hart_locate_49 : decode b_Hart_locate 49 = .ok (.lstore 6, 2) := by decide +kernel
theorem d_Hart_locate_51 : decode b_Hart_locate 51 = .ok (.iload 5, 2) := by decide +kernel
theorem d_Hart_locate_53 : decode b_Hart_locate 53 = .ok (.iconst 3, 1) := by decide +kernel
theorem d_Hart_locate_54 : decode b_Hart_locate 54 = .ok (.if_icmp .ge 28, 3) := by decide +kernel
theorem d_Hart_locate_57 : decode b_Hart_locate 57 = .ok (.aload_n 0, 1) := by decide +kernel
theorem d_Hart_locate_58 : decode b_Hart_locate 58 = .ok (.getfield 34, 3) := by decide +kernel
theorem d_Hart_locate_61 : decode b_Hart_locate 61 = .ok (.invokevirtual 175, 3) := by decide +kernel
theorem d_Hart_locate_64 : decode b_Hart_locate 64 = .ok (.ifCond .eq 18, 3) := by decide +kernel
theorem d_Hart_locate_67 : decode b_Hart_locate 67 = .ok (.iload_n 1, 1) := by decide +kernel
theorem d_Hart_locate_68 : decode b_Hart_locate 68 = .ok (.aload_n 3, 1) := by decide +kernel
theorem d_Hart_locate_69 : decode b_Hart_locate 69 = .ok (.iload 5, 2) := by decide +kernel
theorem d_Hart_locate_71 : decode b_Hart_locate 71 = .ok (.aload_n 0, 1) := by decide +kernel
theorem d_Hart_locate_72 : decode b_Hart_locate 72 = .ok (.getfield 34, 3) := by decide +kernel
theorem d_Hart_locate_75 : decode b_Hart_locate 75 = .ok (.aload 4, 2) := by decide +kernel
theorem d_Hart_locate_77 : decode b_Hart_locate 77 = .ok (.invokestatic 179, 3) := by decide +kernel
theorem d_Hart_locate_80 : decode b_Hart_locate 80 = .ok (.lstore 6, 2) := by decide +kernel
theorem d_Hart_locate_82 : decode b_Hart_locate 82 = .ok (.lload 6, 2) := by decide +kernel
theorem d_Hart_locate_84 : decode b_Hart_locate 84 = .ok (.lconst 0, 1) := by decide +kernel
theorem d_Hart_locate_85 : decode b_Hart_locate 85 = .ok (.lcmp, 1) := by decide +kernel
theorem d_Hart_locate_86 : decode b_Hart_locate 86 = .ok (.ifCond .lt 15, 3) := by decide +kernel
theorem d_Hart_locate_89 : decode b_Hart_locate 89 = .ok (.aload 4, 2) := by decide +kernel
theorem d_Hart_locate_91 : decode b_Hart_locate 91 = .ok (.lload 6, 2) := by decide +kernel
theorem d_Hart_locate_93 : decode b_Hart_locate 93 = .ok (.iload_n 2, 1) := by decide +kernel
theorem d_Hart_locate_94 : decode b_Hart_locate 94 = .ok (.aload_n 3, 1) := by decide +kernel
theorem d_Hart_locate_95 : decode b_Hart_locate 95 = .ok (.invokevirtual 185, 3) := by decide +kernel
theorem d_Hart_locate_98 : decode b_Hart_locate 98 = .ok (.ifCond .eq 6, 3) := by decide +kernel
theorem d_Hart_locate_101 : decode b_Hart_locate 101 = .ok (.lload 6, 2) := by decide +kernel
theorem d_Hart_locate_103 : decode b_Hart_locate 103 = .ok (.lreturn, 1) := by decide +kernel
theorem d_Hart_locate_104 : decode b_Hart_locate 104 = .ok (.aload_n 3, 1) := by decide +kernel
theorem d_Hart_locate_105 : decode b_Hart_locate 105 = .ok (.getfield 189, 3) := by decide +kernel
theorem d_Hart_locate_108 : decode b_Hart_locate 108 = .ok (.invokestatic 166, 3) := by decide +kernel
theorem d_Hart_locate_111 : decode b_Hart_locate 111 = .ok (.lreturn, 1) := by decide +kernel
theorem d_Hart_trap_0 : decode b_Hart_trap 0 = .ok (.aload_n 0, 1) := by decide +kernel
theorem d_Hart_trap_1 : decode b_Hart_trap 1 = .ok (.iload_n 2, 1) := by decide +kernel
theorem d_Hart_trap_2 : decode b_Hart_trap 2 = .ok (.putfield 23, 3) := by decide +kernel
theorem d_Hart_trap_5 : decode b_Hart_trap 5 = .ok (.iconst 1, 1) := by decide +kernel
theorem d_Hart_trap_6 : decode b_Hart_trap 6 = .ok (.iload_n 1, 1) := by decide +kernel
theorem d_Hart_trap_7 : decode b_Hart_trap 7 = .ok (.iadd, 1) := by decide +kernel
theorem d_Hart_trap_8 : decode b_Hart_trap 8 = .ok (.ireturn, 1) := by decide +kernel
theorem d_Hart_fault_0 : decode b_Hart_fault 0 = .ok (.aload_n 0, 1) := by decide +kernel
theorem d_Hart_fault_1 : decode b_Hart_fault 1 = .ok (.lload_n 1, 1) := by decide +kernel
theorem d_Hart_fault_2 : decode b_Hart_fault 2 = .ok (.invokestatic 151, 3) := by decide +kernel
theorem d_Hart_fault_5 : decode b_Hart_fault 5 = .ok (.iload_n 3, 1) := by decide +kernel
theorem d_Hart_fault_6 : decode b_Hart_fault 6 = .ok (.invokevirtual 148, 3) := by decide +kernel
theorem d_Hart_fault_9 : decode b_Hart_fault 9 = .ok (.ireturn, 1) := by decide +kernel
theorem d_Hart_illegal_0 : decode b_Hart_illegal 0 = .ok (.aload_n 0, 1) := by decide +kernel
theorem d_Hart_illegal_1 : decode b_Hart_illegal 1 = .ok (.iconst 2, 1) := by decide +kernel
theorem d_Hart_illegal_2 : decode b_Hart_illegal 2 = .ok (.iload_n 1, 1) := by decide +kernel
theorem d_Hart_illegal_3 : decode b_Hart_illegal 3 = .ok (.invokevirtual 148, 3) := by decide +kernel
theorem d_Hart_illegal_6 : decode b_Hart_illegal 6 = .ok (.ireturn, 1) := by decide +kernel
theorem d_Hart_write_0 : decode b_Hart_write 0 = .ok (.iload_n 1, 1) := by decide +kernel
theorem d_Hart_write_1 : decode b_Hart_write 1 = .ok (.ifCond .eq 10, 3) := by decide +kernel
theorem d_Hart_write_4 : decode b_Hart_write 4 = .ok (.aload_n 0, 1) := by decide +kernel
theorem d_Hart_write_5 : decode b_Hart_write 5 = .ok (.getfield 9, 3) := by decide +kernel
theorem d_Hart_write_8 : decode b_Hart_write 8 = .ok (.iload_n 1, 1) := by decide +kernel
theorem d_Hart_write_9 : decode b_Hart_write 9 = .ok (.iload_n 2, 1) := by decide +kernel
theorem d_Hart_write_10 : decode b_Hart_write 10 = .ok (.iastore, 1) := by decide +kernel
theorem d_Hart_write_11 : decode b_Hart_write 11 = .ok (.return_, 1) := by decide +kernel
theorem d_Hart_goOn_0 : decode b_Hart_goOn 0 = .ok (.aload_n 0, 1) := by decide +kernel
theorem d_Hart_goOn_1 : decode b_Hart_goOn 1 = .ok (.dup, 1) := by decide +kernel
theorem d_Hart_goOn_2 : decode b_Hart_goOn 2 = .ok (.getfield 16, 3) := by decide +kernel
theorem d_Hart_goOn_5 : decode b_Hart_goOn 5 = .ok (.iconst 4, 1) := by decide +kernel
theorem d_Hart_goOn_6 : decode b_Hart_goOn 6 = .ok (.iadd, 1) := by decide +kernel
theorem d_Hart_goOn_7 : decode b_Hart_goOn 7 = .ok (.putfield 16, 3) := by decide +kernel
theorem d_Hart_goOn_10 : decode b_Hart_goOn 10 = .ok (.iconst 0, 1) := by decide +kernel
theorem d_Hart_goOn_11 : decode b_Hart_goOn 11 = .ok (.ireturn, 1) := by decide +kernel
theorem d_Hart_finish_0 : decode b_Hart_finish 0 = .ok (.aload_n 0, 1) := by decide +kernel
theorem d_Hart_finish_1 : decode b_Hart_finish 1 = .ok (.iload_n 1, 1) := by decide +kernel
theorem d_Hart_finish_2 : decode b_Hart_finish 2 = .ok (.invokestatic 141, 3) := by decide +kernel
theorem d_Hart_finish_5 : decode b_Hart_finish 5 = .ok (.iload_n 2, 1) := by decide +kernel
theorem d_Hart_finish_6 : decode b_Hart_finish 6 = .ok (.invokevirtual 144, 3) := by decide +kernel
theorem d_Hart_finish_9 : decode b_Hart_finish 9 = .ok (.aload_n 0, 1) := by decide +kernel
theorem d_Hart_finish_10 : decode b_Hart_finish 10 = .ok (.invokevirtual 93, 3) := by decide +kernel
theorem d_Hart_finish_13 : decode b_Hart_finish 13 = .ok (.ireturn, 1) := by decide +kernel
theorem d_Hart_load_0 : decode b_Hart_load 0 = .ok (.iload_n 1, 1) := by decide +kernel
theorem d_Hart_load_1 : decode b_Hart_load 1 = .ok (.invokestatic 129, 3) := by decide +kernel
theorem d_Hart_load_4 : decode b_Hart_load 4 = .ok (.istore_n 3, 1) := by decide +kernel
theorem d_Hart_load_5 : decode b_Hart_load 5 = .ok (.iload_n 3, 1) := by decide +kernel
theorem d_Hart_load_6 : decode b_Hart_load 6 = .ok (.iconst 3, 1) := by decide +kernel
theorem d_Hart_load_7 : decode b_Hart_load 7 = .ok (.if_icmp .eq 8, 3) := by decide +kernel
theorem d_Hart_load_10 : decode b_Hart_load 10 = .ok (.iload_n 3, 1) := by decide +kernel
theorem d_Hart_load_11 : decode b_Hart_load 11 = .ok (.iconst 5, 1) := by decide +kernel
theorem d_Hart_load_12 : decode b_Hart_load 12 = .ok (.if_icmp .le 9, 3) := by decide +kernel
theorem d_Hart_load_15 : decode b_Hart_load 15 = .ok (.aload_n 0, 1) := by decide +kernel
theorem d_Hart_load_16 : decode b_Hart_load 16 = .ok (.iload_n 1, 1) := by decide +kernel
theorem d_Hart_load_17 : decode b_Hart_load 17 = .ok (.invokevirtual 138, 3) := by decide +kernel
theorem d_Hart_load_20 : decode b_Hart_load 20 = .ok (.ireturn, 1) := by decide +kernel
theorem d_Hart_load_21 : decode b_Hart_load 21 = .ok (.iconst 1, 1) := by decide +kernel
theorem d_Hart_load_22 : decode b_Hart_load 22 = .ok (.iload_n 3, 1) := by decide +kernel
theorem d_Hart_load_23 : decode b_Hart_load 23 = .ok (.iconst 3, 1) := by decide +kernel
theorem d_Hart_load_24 : decode b_Hart_load 24 = .ok (.iand, 1) := by decide +kernel
theorem d_Hart_load_25 : decode b_Hart_load 25 = .ok (.ishl, 1) := by decide +kernel
theorem d_Hart_load_26 : decode b_Hart_load 26 = .ok (.istore 4, 2) := by decide +kernel
theorem d_Hart_load_28 : decode b_Hart_load 28 = .ok (.aload_n 0, 1) := by decide +kernel
theorem d_Hart_load_29 : decode b_Hart_load 29 = .ok (.getfield 9, 3) := by decide +kernel
theorem d_Hart_load_32 : decode b_Hart_load 32 = .ok (.iload_n 1, 1) := by decide +kernel
theorem d_Hart_load_33 : decode b_Hart_load 33 = .ok (.invokestatic 192, 3) := by decide +kernel
theorem d_Hart_load_36 : decode b_Hart_load 36 = .ok (.iaload, 1) := by decide +kernel
theorem d_Hart_load_37 : decode b_Hart_load 37 = .ok (.iload_n 1, 1) := by decide +kernel
theorem d_Hart_load_38 : decode b_Hart_load 38 = .ok (.invokestatic 195, 3) := by decide +kernel
theorem d_Hart_load_41 : decode b_Hart_load 41 = .ok (.iadd, 1) := by decide +kernel
theorem d_Hart_load_42 : decode b_Hart_load 42 = .ok (.istore 5, 2) := by decide +kernel
theorem d_Hart_load_44 : decode b_Hart_load 44 = .ok (.aload_n 0, 1) := by decide +kernel
theorem d_Hart_load_45 : decode b_Hart_load 45 = .ok (.iload 5, 2) := by decide +kernel
theorem d_Hart_load_47 : decode b_Hart_load 47 = .ok (.iload 4, 2) := by decide +kernel
theorem d_Hart_load_49 : decode b_Hart_load 49 = .ok (.getstatic 210, 3) := by decide +kernel
theorem d_Hart_load_52 : decode b_Hart_load 52 = .ok (.aload_n 2, 1) := by decide +kernel
theorem d_Hart_load_53 : decode b_Hart_load 53 = .ok (.invokevirtual 71, 3) := by decide +kernel
theorem d_Hart_load_56 : decode b_Hart_load 56 = .ok (.lstore 6, 2) := by decide +kernel
theorem d_Hart_load_58 : decode b_Hart_load 58 = .ok (.lload 6, 2) := by decide +kernel
theorem d_Hart_load_60 : decode b_Hart_load 60 = .ok (.lconst 0, 1) := by decide +kernel
theorem d_Hart_load_61 : decode b_Hart_load 61 = .ok (.lcmp, 1) := by decide +kernel
theorem d_Hart_load_62 : decode b_Hart_load 62 = .ok (.ifCond .ge 12, 3) := by decide +kernel
theorem d_Hart_load_65 : decode b_Hart_load 65 = .ok (.aload_n 0, 1) := by decide +kernel
theorem d_Hart_load_66 : decode b_Hart_load 66 = .ok (.lload 6, 2) := by decide +kernel
theorem d_Hart_load_68 : decode b_Hart_load 68 = .ok (.iload 5, 2) := by decide +kernel
theorem d_Hart_load_70 : decode b_Hart_load 70 = .ok (.invokevirtual 75, 3) := by decide +kernel
theorem d_Hart_load_73 : decode b_Hart_load 73 = .ok (.ireturn, 1) := by decide +kernel
theorem d_Hart_load_74 : decode b_Hart_load 74 = .ok (.aload_n 2, 1) := by decide +kernel
theorem d_Hart_load_75 : decode b_Hart_load 75 = .ok (.lload 6, 2) := by decide +kernel
theorem d_Hart_load_77 : decode b_Hart_load 77 = .ok (.iload 4, 2) := by decide +kernel
theorem d_Hart_load_79 : decode b_Hart_load 79 = .ok (.invokevirtual 213, 3) := by decide +kernel
theorem d_Hart_load_82 : decode b_Hart_load 82 = .ok (.istore 8, 2) := by decide +kernel
theorem d_Hart_load_84 : decode b_Hart_load 84 = .ok (.iload_n 3, 1) := by decide +kernel
theorem d_Hart_load_85 : decode b_Hart_load 85 = .ok (.ifCond .ne 11, 3) := by decide +kernel
theorem d_Hart_load_88 : decode b_Hart_load 88 = .ok (.iload 8, 2) := by decide +kernel
theorem d_Hart_load_90 : decode b_Hart_load 90 = .ok (.i2b, 1) := by decide +kernel
theorem d_Hart_load_91 : decode b_Hart_load 91 = .ok (.istore 8, 2) := by decide +kernel
theorem d_Hart_load_93 : decode b_Hart_load 93 = .ok (.goto 13, 3) := by decide +kernel
theorem d_Hart_load_96 : decode b_Hart_load 96 = .ok (.iload_n 3, 1) := by decide +kernel
theorem d_Hart_load_97 : decode b_Hart_load 97 = .ok (.iconst 1, 1) := by decide +kernel
theorem d_Hart_load_98 : decode b_Hart_load 98 = .ok (.if_icmp .ne 8, 3) := by decide +kernel
theorem d_Hart_load_101 : decode b_Hart_load 101 = .ok (.iload 8, 2) := by decide +kernel
theorem d_Hart_load_103 : decode b_Hart_load 103 = .ok (.i2s, 1) := by decide +kernel
theorem d_Hart_load_104 : decode b_Hart_load 104 = .ok (.istore 8, 2) := by decide +kernel
theorem d_Hart_load_106 : decode b_Hart_load 106 = .ok (.aload_n 0, 1) := by decide +kernel
theorem d_Hart_load_107 : decode b_Hart_load 107 = .ok (.iload_n 1, 1) := by decide +kernel
theorem d_Hart_load_108 : decode b_Hart_load 108 = .ok (.iload 8, 2) := by decide +kernel
theorem d_Hart_load_110 : decode b_Hart_load 110 = .ok (.invokevirtual 105, 3) := by decide +kernel
theorem d_Hart_load_113 : decode b_Hart_load 113 = .ok (.ireturn, 1) := by decide +kernel
theorem d_Hart_computeWithImmediate_0 : decode b_Hart_computeWithImmediate 0 = .ok (.iload_n 1, 1) := by decide +kernel
theorem d_Hart_computeWithImmediate_1 : decode b_Hart_computeWithImmediate 1 = .ok (.invokestatic 129, 3) := by decide +kernel
theorem d_Hart_computeWithImmediate_4 : decode b_Hart_computeWithImmediate 4 = .ok (.istore_n 2, 1) := by decide +kernel
theorem d_Hart_computeWithImmediate_5 : decode b_Hart_computeWithImmediate 5 = .ok (.iload_n 1, 1) := by decide +kernel
theorem d_Hart_computeWithImmediate_6 : decode b_Hart_computeWithImmediate 6 = .ok (.invokestatic 224, 3) := by decide +kernel
theorem d_Hart_computeWithImmediate_9 : decode b_Hart_computeWithImmediate 9 = .ok (.istore_n 3, 1) := by decide +kernel
theorem d_Hart_computeWithImmediate_10 : decode b_Hart_computeWithImmediate 10 = .ok (.aload_n 0, 1) := by decide +kernel
theorem d_Hart_computeWithImmediate_11 : decode b_Hart_computeWithImmediate 11 = .ok (.getfield 9, 3) := by decide +kernel
theorem d_Hart_computeWithImmediate_14 : decode b_Hart_computeWithImmediate 14 = .ok (.iload_n 1, 1) := by decide +kernel
theorem d_Hart_computeWithImmediate_15 : decode b_Hart_computeWithImmediate 15 = .ok (.invokestatic 192, 3) := by decide +kernel
theorem d_Hart_computeWithImmediate_18 : decode b_Hart_computeWithImmediate 18 = .ok (.iaload, 1) := by decide +kernel
theorem d_Hart_computeWithImmediate_19 : decode b_Hart_computeWithImmediate 19 = .ok (.istore 4, 2) := by decide +kernel
theorem d_Hart_computeWithImmediate_21 : decode b_Hart_computeWithImmediate 21 = .ok (.iload_n 2, 1) := by decide +kernel
theorem d_Hart_computeWithImmediate_22 : decode b_Hart_computeWithImmediate 22 = .ok (.iconst 5, 1) := by decide +kernel
theorem d_Hart_computeWithImmediate_23 : decode b_Hart_computeWithImmediate 23 = .ok (.if_icmp .ne 22, 3) := by decide +kernel
theorem d_Hart_computeWithImmediate_26 : decode b_Hart_computeWithImmediate 26 = .ok (.iload_n 3, 1) := by decide +kernel
theorem d_Hart_computeWithImmediate_27 : decode b_Hart_computeWithImmediate 27 = .ok (.bipush 32, 2) := by decide +kernel
theorem d_Hart_computeWithImmediate_29 : decode b_Hart_computeWithImmediate 29 = .ok (.if_icmp .ne 16, 3) := by decide +kernel
theorem d_Hart_computeWithImmediate_32 : decode b_Hart_computeWithImmediate 32 = .ok (.aload_n 0, 1) := by decide +kernel
theorem d_Hart_computeWithImmediate_33 : decode b_Hart_computeWithImmediate 33 = .ok (.iload_n 1, 1) := by decide +kernel
theorem d_Hart_computeWithImmediate_34 : decode b_Hart_computeWithImmediate 34 = .ok (.iload 4, 2) := by decide +kernel
theorem d_Hart_computeWithImmediate_36 : decode b_Hart_computeWithImmediate 36 = .ok (.iload_n 1, 1) := by decide +kernel
theorem d_Hart_computeWithImmediate_37 : decode b_Hart_computeWithImmediate 37 = .ok (.invokestatic 198, 3) := by decide +kernel
theorem d_Hart_computeWithImmediate_40 : decode b_Hart_computeWithImmediate 40 = .ok (.ishr, 1) := by decide +kernel
theorem d_Hart_computeWithImmediate_41 : decode b_Hart_computeWithImmediate 41 = .ok (.invokevirtual 105, 3) := by decide +kernel
theorem d_Hart_computeWithImmediate_44 : decode b_Hart_computeWithImmediate 44 = .ok (.ireturn, 1) := by decide +kernel
theorem d_Hart_computeWithImmediate_45 : decode b_Hart_computeWithImmediate 45 = .ok (.iload_n 2, 1) := by decide +kernel
theorem d_Hart_computeWithImmediate_46 : decode b_Hart_computeWithImmediate 46 = .ok (.iconst 1, 1) := by decide +kernel
theorem d_Hart_computeWithImmediate_47 : decode b_Hart_computeWithImmediate 47 = .ok (.if_icmp .eq 8, 3) := by decide +kernel
theorem d_Hart_computeWithImmediate_50 : decode b_Hart_computeWithImmediate 50 = .ok (.iload_n 2, 1) := by decide +kernel
theorem d_Hart_computeWithImmediate_51 : decode b_Hart_computeWithImmediate 51 = .ok (.iconst 5, 1) := by decide +kernel
theorem d_Hart_computeWithImmediate_52 : decode b_Hart_computeWithImmediate 52 = .ok (.if_icmp .ne 13, 3) := by decide +kernel
theorem d_Hart_computeWithImmediate_55 : decode b_Hart_computeWithImmediate 55 = .ok (.iload_n 3, 1) := by decide +kernel
theorem d_Hart_computeWithImmediate_56 : decode b_Hart_computeWithImmediate 56 = .ok (.ifCond .eq 9, 3) := by decide +kernel
theorem d_Hart_computeWithImmediate_59 : decode b_Hart_computeWithImmediate 59 = .ok (.aload_n 0, 1) := by decide +kernel
theorem d_Hart_computeWithImmediate_60 : decode b_Hart_computeWithImmediate 60 = .ok (.iload_n 1, 1) := by decide +kernel
theorem d_Hart_computeWithImmediate_61 : decode b_Hart_computeWithImmediate 61 = .ok (.invokevirtual 138, 3) := by decide +kernel
theorem d_Hart_computeWithImmediate_64 : decode b_Hart_computeWithImmediate 64 = .ok (.ireturn, 1) := by decide +kernel
theorem d_Hart_computeWithImmediate_65 : decode b_Hart_computeWithImmediate 65 = .ok (.aload_n 0, 1) := by decide +kernel
theorem d_Hart_computeWithImmediate_66 : decode b_Hart_computeWithImmediate 66 = .ok (.iload_n 1, 1) := by decide +kernel
theorem d_Hart_computeWithImmediate_67 : decode b_Hart_computeWithImmediate 67 = .ok (.iload_n 2, 1) := by decide +kernel
theorem d_Hart_computeWithImmediate_68 : decode b_Hart_computeWithImmediate 68 = .ok (.iload 4, 2) := by decide +kernel
theorem d_Hart_computeWithImmediate_70 : decode b_Hart_computeWithImmediate 70 = .ok (.iload_n 1, 1) := by decide +kernel
theorem d_Hart_computeWithImmediate_71 : decode b_Hart_computeWithImmediate 71 = .ok (.invokestatic 195, 3) := by decide +kernel
theorem d_Hart_computeWithImmediate_74 : decode b_Hart_computeWithImmediate 74 = .ok (.invokestatic 227, 3) := by decide +kernel
theorem d_Hart_computeWithImmediate_77 : decode b_Hart_computeWithImmediate 77 = .ok (.invokevirtual 105, 3) := by decide +kernel
theorem d_Hart_computeWithImmediate_80 : decode b_Hart_computeWithImmediate 80 = .ok (.ireturn, 1) := by decide +kernel
theorem d_Hart_store_0 : decode b_Hart_store 0 = .ok (.iload_n 1, 1) := by decide +kernel
theorem d_Hart_store_1 : decode b_Hart_store 1 = .ok (.invokestatic 129, 3) := by decide +kernel
theorem d_Hart_store_4 : decode b_Hart_store 4 = .ok (.istore_n 3, 1) := by decide +kernel
theorem d_Hart_store_5 : decode b_Hart_store 5 = .ok (.iload_n 3, 1) := by decide +kernel
theorem d_Hart_store_6 : decode b_Hart_store 6 = .ok (.iconst 2, 1) := by decide +kernel
theorem d_Hart_store_7 : decode b_Hart_store 7 = .ok (.if_icmp .le 9, 3) := by decide +kernel
theorem d_Hart_store_10 : decode b_Hart_store 10 = .ok (.aload_n 0, 1) := by decide +kernel
theorem d_Hart_store_11 : decode b_Hart_store 11 = .ok (.iload_n 1, 1) := by decide +kernel
theorem d_Hart_store_12 : decode b_Hart_store 12 = .ok (.invokevirtual 138, 3) := by decide +kernel
theorem d_Hart_store_15 : decode b_Hart_store 15 = .ok (.ireturn, 1) := by decide +kernel
theorem d_Hart_store_16 : decode b_Hart_store 16 = .ok (.iconst 1, 1) := by decide +kernel
theorem d_Hart_store_17 : decode b_Hart_store 17 = .ok (.iload_n 3, 1) := by decide +kernel
theorem d_Hart_store_18 : decode b_Hart_store 18 = .ok (.ishl, 1) := by decide +kernel
theorem d_Hart_store_19 : decode b_Hart_store 19 = .ok (.istore 4, 2) := by decide +kernel
theorem d_Hart_store_21 : decode b_Hart_store 21 = .ok (.aload_n 0, 1) := by decide +kernel
theorem d_Hart_store_22 : decode b_Hart_store 22 = .ok (.getfield 9, 3) := by decide +kernel
theorem d_Hart_store_25 : decode b_Hart_store 25 = .ok (.iload_n 1, 1) := by decide +kernel
theorem d_Hart_store_26 : decode b_Hart_store 26 = .ok (.invokestatic 192, 3) := by decide +kernel
theorem d_Hart_store_29 : decode b_Hart_store 29 = .ok (.iaload, 1) := by decide +kernel
theorem d_Hart_store_30 : decode b_Hart_store 30 = .ok (.iload_n 1, 1) := by decide +kernel
theorem d_Hart_store_31 : decode b_Hart_store 31 = .ok (.invokestatic 215, 3) := by decide +kernel
theorem d_Hart_store_34 : decode b_Hart_store 34 = .ok (.iadd, 1) := by decide +kernel
theorem d_Hart_store_35 : decode b_Hart_store 35 = .ok (.istore 5, 2) := by decide +kernel
theorem d_Hart_store_37 : decode b_Hart_store 37 = .ok (.aload_n 0, 1) := by decide +kernel
theorem d_Hart_store_38 : decode b_Hart_store 38 = .ok (.iload 5, 2) := by decide +kernel
theorem d_Hart_store_40 : decode b_Hart_store 40 = .ok (.iload 4, 2) := by decide +kernel
theorem d_Hart_store_42 : decode b_Hart_store 42 = .ok (.getstatic 218, 3) := by decide +kernel
theorem d_Hart_store_45 : decode b_Hart_store 45 = .ok (.aload_n 2, 1) := by decide +kernel
theorem d_Hart_store_46 : decode b_Hart_store 46 = .ok (.invokevirtual 71, 3) := by decide +kernel
theorem d_Hart_store_49 : decode b_Hart_store 49 = .ok (.lstore 6, 2) := by decide +kernel
theorem d_Hart_store_51 : decode b_Hart_store 51 = .ok (.lload 6, 2) := by decide +kernel
theorem d_Hart_store_53 : decode b_Hart_store 53 = .ok (.lconst 0, 1) := by decide +kernel
theorem d_Hart_store_54 : decode b_Hart_store 54 = .ok (.lcmp, 1) := by decide +kernel
theorem d_Hart_store_55 : decode b_Hart_store 55 = .ok (.ifCond .ge 12, 3) := by decide +kernel
theorem d_Hart_store_58 : decode b_Hart_store 58 = .ok (.aload_n 0, 1) := by decide +kernel
theorem d_Hart_store_59 : decode b_Hart_store 59 = .ok (.lload 6, 2) := by decide +kernel
theorem d_Hart_store_61 : decode b_Hart_store 61 = .ok (.iload 5, 2) := by decide +kernel
theorem d_Hart_store_63 : decode b_Hart_store 63 = .ok (.invokevirtual 75, 3) := by decide +kernel
theorem d_Hart_store_66 : decode b_Hart_store 66 = .ok (.ireturn, 1) := by decide +kernel
theorem d_Hart_store_67 : decode b_Hart_store 67 = .ok (.aload_n 2, 1) := by decide +kernel
theorem d_Hart_store_68 : decode b_Hart_store 68 = .ok (.lload 6, 2) := by decide +kernel
theorem d_Hart_store_70 : decode b_Hart_store 70 = .ok (.iload 4, 2) := by decide +kernel
theorem d_Hart_store_72 : decode b_Hart_store 72 = .ok (.aload_n 0, 1) := by decide +kernel
theorem d_Hart_store_73 : decode b_Hart_store 73 = .ok (.getfield 9, 3) := by decide +kernel
theorem d_Hart_store_76 : decode b_Hart_store 76 = .ok (.iload_n 1, 1) := by decide +kernel
theorem d_Hart_store_77 : decode b_Hart_store 77 = .ok (.invokestatic 198, 3) := by decide +kernel
theorem d_Hart_store_80 : decode b_Hart_store 80 = .ok (.iaload, 1) := by decide +kernel
theorem d_Hart_store_81 : decode b_Hart_store 81 = .ok (.invokevirtual 221, 3) := by decide +kernel
theorem d_Hart_store_84 : decode b_Hart_store 84 = .ok (.aload_n 0, 1) := by decide +kernel
theorem d_Hart_store_85 : decode b_Hart_store 85 = .ok (.invokevirtual 93, 3) := by decide +kernel
theorem d_Hart_store_88 : decode b_Hart_store 88 = .ok (.ireturn, 1) := by decide +kernel
theorem d_Hart_isChange_0 : decode b_Hart_isChange 0 = .ok (.iload_n 0, 1) := by decide +kernel
theorem d_Hart_isChange_1 : decode b_Hart_isChange 1 = .ok (.iconst 2, 1) := by decide +kernel
theorem d_Hart_isChange_2 : decode b_Hart_isChange 2 = .ok (.if_icmp .ne 13, 3) := by decide +kernel
theorem d_Hart_isChange_5 : decode b_Hart_isChange 5 = .ok (.iload_n 1, 1) := by decide +kernel
theorem d_Hart_isChange_6 : decode b_Hart_isChange 6 = .ok (.ifCond .ne 7, 3) := by decide +kernel
theorem d_Hart_isChange_9 : decode b_Hart_isChange 9 = .ok (.iconst 1, 1) := by decide +kernel
theorem d_Hart_isChange_10 : decode b_Hart_isChange 10 = .ok (.goto 4, 3) := by decide +kernel
theorem d_Hart_isChange_13 : decode b_Hart_isChange 13 = .ok (.iconst 0, 1) := by decide +kernel
theorem d_Hart_isChange_14 : decode b_Hart_isChange 14 = .ok (.ireturn, 1) := by decide +kernel
theorem d_Hart_isChange_15 : decode b_Hart_isChange 15 = .ok (.iload_n 0, 1) := by decide +kernel
theorem d_Hart_isChange_16 : decode b_Hart_isChange 16 = .ok (.iconst 4, 1) := by decide +kernel
theorem d_Hart_isChange_17 : decode b_Hart_isChange 17 = .ok (.if_icmp .lt 9, 3) := by decide +kernel
theorem d_Hart_isChange_20 : decode b_Hart_isChange 20 = .ok (.iload_n 0, 1) := by decide +kernel
theorem d_Hart_isChange_21 : decode b_Hart_isChange 21 = .ok (.iconst 3, 1) := by decide +kernel
theorem d_Hart_isChange_22 : decode b_Hart_isChange 22 = .ok (.iand, 1) := by decide +kernel
theorem d_Hart_isChange_23 : decode b_Hart_isChange 23 = .ok (.ifCond .ne 7, 3) := by decide +kernel
theorem d_Hart_isChange_26 : decode b_Hart_isChange 26 = .ok (.iconst 1, 1) := by decide +kernel
theorem d_Hart_isChange_27 : decode b_Hart_isChange 27 = .ok (.goto 4, 3) := by decide +kernel
theorem d_Hart_isChange_30 : decode b_Hart_isChange 30 = .ok (.iconst 0, 1) := by decide +kernel
theorem d_Hart_isChange_31 : decode b_Hart_isChange 31 = .ok (.ireturn, 1) := by decide +kernel
theorem d_Hart_changeAtOnce_0 : decode b_Hart_changeAtOnce 0 = .ok (.iload_n 1, 1) := by decide +kernel
theorem d_Hart_changeAtOnce_1 : decode b_Hart_changeAtOnce 1 = .ok (.bipush 27, 2) := by decide +kernel
theorem d_Hart_changeAtOnce_3 : decode b_Hart_changeAtOnce 3 = .ok (.iushr, 1) := by decide +kernel
theorem d_Hart_changeAtOnce_4 : decode b_Hart_changeAtOnce 4 = .ok (.istore_n 3, 1) := by decide +kernel
theorem d_Hart_changeAtOnce_5 : decode b_Hart_changeAtOnce 5 = .ok (.iload_n 1, 1) := by decide +kernel
theorem d_Hart_changeAtOnce_6 : decode b_Hart_changeAtOnce 6 = .ok (.invokestatic 129, 3) := by decide +kernel
theorem d_Hart_changeAtOnce_9 : decode b_Hart_changeAtOnce 9 = .ok (.iconst 2, 1) := by decide +kernel
theorem d_Hart_changeAtOnce_10 : decode b_Hart_changeAtOnce 10 = .ok (.if_icmp .ne 14, 3) := by decide +kernel
theorem d_Hart_changeAtOnce_13 : decode b_Hart_changeAtOnce 13 = .ok (.iload_n 3, 1) := by decide +kernel
theorem d_Hart_changeAtOnce_14 : decode b_Hart_changeAtOnce 14 = .ok (.iload_n 1, 1) := by decide +kernel
theorem d_Hart_changeAtOnce_15 : decode b_Hart_changeAtOnce 15 = .ok (.invokestatic 198, 3) := by decide +kernel
theorem d_Hart_changeAtOnce_18 : decode b_Hart_changeAtOnce 18 = .ok (.invokestatic 237, 3) := by decide +kernel
theorem d_Hart_changeAtOnce_21 : decode b_Hart_changeAtOnce 21 = .ok (.ifCond .ne 9, 3) := by decide +kernel
theorem d_Hart_changeAtOnce_24 : decode b_Hart_changeAtOnce 24 = .ok (.aload_n 0, 1) := by decide +kernel
theorem d_Hart_changeAtOnce_25 : decode b_Hart_changeAtOnce 25 = .ok (.iload_n 1, 1) := by decide +kernel
theorem d_Hart_changeAtOnce_26 : decode b_Hart_changeAtOnce 26 = .ok (.invokevirtual 138, 3) := by decide +kernel
theorem d_Hart_changeAtOnce_29 : decode b_Hart_changeAtOnce 29 = .ok (.ireturn, 1) := by decide +kernel
theorem d_Hart_changeAtOnce_30 : decode b_Hart_changeAtOnce 30 = .ok (.aload_n 0, 1) := by decide +kernel
theorem d_Hart_changeAtOnce_31 : decode b_Hart_changeAtOnce 31 = .ok (.getfield 9, 3) := by decide +kernel
theorem d_Hart_changeAtOnce_34 : decode b_Hart_changeAtOnce 34 = .ok (.iload_n 1, 1) := by decide +kernel
theorem d_Hart_changeAtOnce_35 : decode b_Hart_changeAtOnce 35 = .ok (.invokestatic 192, 3) := by decide +kernel
theorem d_Hart_changeAtOnce_38 : decode b_Hart_changeAtOnce 38 = .ok (.iaload, 1) := by decide +kernel
theorem d_Hart_changeAtOnce_39 : decode b_Hart_changeAtOnce 39 = .ok (.istore 4, 2) := by decide +kernel
theorem d_Hart_changeAtOnce_41 : decode b_Hart_changeAtOnce 41 = .ok (.aload_n 0, 1) := by decide +kernel
theorem d_Hart_changeAtOnce_42 : decode b_Hart_changeAtOnce 42 = .ok (.getfield 9, 3) := by decide +kernel
theorem d_Hart_changeAtOnce_45 : decode b_Hart_changeAtOnce 45 = .ok (.iload_n 1, 1) := by decide +kernel
theorem d_Hart_changeAtOnce_46 : decode b_Hart_changeAtOnce 46 = .ok (.invokestatic 198, 3) := by decide +kernel
theorem d_Hart_changeAtOnce_49 : decode b_Hart_changeAtOnce 49 = .ok (.iaload, 1) := by decide +kernel
theorem d_Hart_changeAtOnce_50 : decode b_Hart_changeAtOnce 50 = .ok (.istore 5, 2) := by decide +kernel
theorem d_Hart_changeAtOnce_52 : decode b_Hart_changeAtOnce 52 = .ok (.aload_n 0, 1) := by decide +kernel
theorem d_Hart_changeAtOnce_53 : decode b_Hart_changeAtOnce 53 = .ok (.iload 4, 2) := by decide +kernel
theorem d_Hart_changeAtOnce_55 : decode b_Hart_changeAtOnce 55 = .ok (.iconst 4, 1) := by decide +kernel
theorem d_Hart_changeAtOnce_56 : decode b_Hart_changeAtOnce 56 = .ok (.iload_n 3, 1) := by decide +kernel
theorem d_Hart_changeAtOnce_57 : decode b_Hart_changeAtOnce 57 = .ok (.iconst 2, 1) := by decide +kernel
theorem d_Hart_changeAtOnce_58 : decode b_Hart_changeAtOnce 58 = .ok (.if_icmp .ne 9, 3) := by decide +kernel
theorem d_Hart_changeAtOnce_61 : decode b_Hart_changeAtOnce 61 = .ok (.getstatic 241, 3) := by decide +kernel
theorem d_Hart_changeAtOnce_64 : decode b_Hart_changeAtOnce 64 = .ok (.goto 6, 3) := by decide +kernel
theorem d_Hart_changeAtOnce_67 : decode b_Hart_changeAtOnce 67 = .ok (.getstatic 244, 3) := by decide +kernel
theorem d_Hart_changeAtOnce_70 : decode b_Hart_changeAtOnce 70 = .ok (.aload_n 2, 1) := by decide +kernel
theorem d_Hart_changeAtOnce_71 : decode b_Hart_changeAtOnce 71 = .ok (.invokevirtual 71, 3) := by decide +kernel
theorem d_Hart_changeAtOnce_74 : decode b_Hart_changeAtOnce 74 = .ok (.lstore 6, 2) := by decide +kernel
theorem d_Hart_changeAtOnce_76 : decode b_Hart_changeAtOnce 76 = .ok (.lload 6, 2) := by decide +kernel
theorem d_Hart_changeAtOnce_78 : decode b_Hart_changeAtOnce 78 = .ok (.lconst 0, 1) := by decide +kernel
theorem d_Hart_changeAtOnce_79 : decode b_Hart_changeAtOnce 79 = .ok (.lcmp, 1) := by decide +kernel
theorem d_Hart_changeAtOnce_80 : decode b_Hart_changeAtOnce 80 = .ok (.ifCond .ge 12, 3) := by decide +kernel
theorem d_Hart_changeAtOnce_83 : decode b_Hart_changeAtOnce 83 = .ok (.aload_n 0, 1) := by decide +kernel
theorem d_Hart_changeAtOnce_84 : decode b_Hart_changeAtOnce 84 = .ok (.lload 6, 2) := by decide +kernel
theorem d_Hart_changeAtOnce_86 : decode b_Hart_changeAtOnce 86 = .ok (.iload 4, 2) := by decide +kernel
theorem d_Hart_changeAtOnce_88 : decode b_Hart_changeAtOnce 88 = .ok (.invokevirtual 75, 3) := by decide +kernel
theorem d_Hart_changeAtOnce_91 : decode b_Hart_changeAtOnce 91 = .ok (.ireturn, 1) := by decide +kernel
theorem d_Hart_changeAtOnce_92 : decode b_Hart_changeAtOnce 92 = .ok (.iload_n 3, 1) := by decide +kernel
theorem d_Hart_changeAtOnce_93 : decode b_Hart_changeAtOnce 93 = .ok (.iconst 3, 1) := by decide +kernel
theorem d_Hart_changeAtOnce_94 : decode b_Hart_changeAtOnce 94 = .ok (.if_icmp .ne 29, 3) := by decide +kernel
theorem d_Hart_changeAtOnce_97 : decode b_Hart_changeAtOnce 97 = .ok (.aload_n 0, 1) := by decide +kernel
theorem d_Hart_changeAtOnce_98 : decode b_Hart_changeAtOnce 98 = .ok (.iload_n 1, 1) := by decide +kernel
theorem d_Hart_changeAtOnce_99 : decode b_Hart_changeAtOnce 99 = .ok (.aload_n 2, 1) := by decide +kernel
theorem d_Hart_changeAtOnce_100 : decode b_Hart_changeAtOnce 100 = .ok (.aload_n 0, 1) := by decide +kernel
theorem d_Hart_changeAtOnce_101 : decode b_Hart_changeAtOnce 101 = .ok (.getfield 26, 3) := by decide +kernel
theorem d_Hart_changeAtOnce_104 : decode b_Hart_changeAtOnce 104 = .ok (.lload 6, 2) := by decide +kernel
theorem d_Hart_changeAtOnce_106 : decode b_Hart_changeAtOnce 106 = .ok (.iload 5, 2) := by decide +kernel
theorem d_Hart_changeAtOnce_108 : decode b_Hart_changeAtOnce 108 = .ok (.invokevirtual 247, 3) := by decide +kernel
theorem d_Hart_changeAtOnce_111 : decode b_Hart_changeAtOnce 111 = .ok (.ifCond .eq 7, 3) := by decide +kernel
theorem d_Hart_changeAtOnce_114 : decode b_Hart_changeAtOnce 114 = .ok (.iconst 0, 1) := by decide +kernel
theorem d_Hart_changeAtOnce_115 : decode b_Hart_changeAtOnce 115 = .ok (.goto 4, 3) := by decide +kernel
theorem d_Hart_changeAtOnce_118 : decode b_Hart_changeAtOnce 118 = .ok (.iconst 1, 1) := by decide +kernel
theorem d_Hart_changeAtOnce_119 : decode b_Hart_changeAtOnce 119 = .ok (.invokevirtual 105, 3) := by decide +kernel
theorem d_Hart_changeAtOnce_122 : decode b_Hart_changeAtOnce 122 = .ok (.ireturn, 1) := by decide +kernel
theorem d_Hart_changeAtOnce_123 : decode b_Hart_changeAtOnce 123 = .ok (.aload_n 2, 1) := by decide +kernel
theorem d_Hart_changeAtOnce_124 : decode b_Hart_changeAtOnce 124 = .ok (.lload 6, 2) := by decide +kernel
theorem d_Hart_changeAtOnce_126 : decode b_Hart_changeAtOnce 126 = .ok (.iconst 4, 1) := by decide +kernel
theorem d_Hart_changeAtOnce_127 : decode b_Hart_changeAtOnce 127 = .ok (.invokevirtual 213, 3) := by decide +kernel
theorem d_Hart_changeAtOnce_130 : decode b_Hart_changeAtOnce 130 = .ok (.istore 8, 2) := by decide +kernel
theorem d_Hart_changeAtOnce_132 : decode b_Hart_changeAtOnce 132 = .ok (.iload_n 3, 1) := by decide +kernel
theorem d_Hart_changeAtOnce_133 : decode b_Hart_changeAtOnce 133 = .ok (.iconst 2, 1) := by decide +kernel
theorem d_Hart_changeAtOnce_134 : decode b_Hart_changeAtOnce 134 = .ok (.if_icmp .ne 16, 3) := by decide +kernel
theorem d_Hart_changeAtOnce_137 : decode b_Hart_changeAtOnce 137 = .ok (.aload_n 2, 1) := by decide +kernel
theorem d_Hart_changeAtOnce_138 : decode b_Hart_changeAtOnce 138 = .ok (.aload_n 0, 1) := by decide +kernel
theorem d_Hart_changeAtOnce_139 : decode b_Hart_changeAtOnce 139 = .ok (.getfield 26, 3) := by decide +kernel
theorem d_Hart_changeAtOnce_142 : decode b_Hart_changeAtOnce 142 = .ok (.lload 6, 2) := by decide +kernel
theorem d_Hart_changeAtOnce_144 : decode b_Hart_changeAtOnce 144 = .ok (.invokevirtual 251, 3) := by decide +kernel
theorem d_Hart_changeAtOnce_147 : decode b_Hart_changeAtOnce 147 = .ok (.goto 18, 3) := by decide +kernel
theorem d_Hart_changeAtOnce_150 : decode b_Hart_changeAtOnce 150 = .ok (.aload_n 2, 1) := by decide +kernel
theorem d_Hart_changeAtOnce_151 : decode b_Hart_changeAtOnce 151 = .ok (.lload 6, 2) := by decide +kernel
theorem d_Hart_changeAtOnce_153 : decode b_Hart_changeAtOnce 153 = .ok (.iconst 4, 1) := by decide +kernel
theorem d_Hart_changeAtOnce_154 : decode b_Hart_changeAtOnce 154 = .ok (.iload_n 3, 1) := by decide +kernel
theorem d_Hart_changeAtOnce_155 : decode b_Hart_changeAtOnce 155 = .ok (.iload 8, 2) := by decide +kernel
theorem d_Hart_changeAtOnce_157 : decode b_Hart_changeAtOnce 157 = .ok (.iload 5, 2) := by decide +kernel
theorem d_Hart_changeAtOnce_159 : decode b_Hart_changeAtOnce 159 = .ok (.invokestatic 255, 3) := by decide +kernel
theorem d_Hart_changeAtOnce_162 : decode b_Hart_changeAtOnce 162 = .ok (.invokevirtual 221, 3) := by decide +kernel
theorem d_Hart_changeAtOnce_165 : decode b_Hart_changeAtOnce 165 = .ok (.aload_n 0, 1) := by decide +kernel
theorem d_Hart_changeAtOnce_166 : decode b_Hart_changeAtOnce 166 = .ok (.iload_n 1, 1) := by decide +kernel
theorem d_Hart_changeAtOnce_167 : decode b_Hart_changeAtOnce 167 = .ok (.iload 8, 2) := by decide +kernel
theorem d_Hart_changeAtOnce_169 : decode b_Hart_changeAtOnce 169 = .ok (.invokevirtual 105, 3) := by decide +kernel
theorem d_Hart_changeAtOnce_172 : decode b_Hart_changeAtOnce 172 = .ok (.ireturn, 1) := by decide +kernel
theorem d_Hart_compute_0 : decode b_Hart_compute 0 = .ok (.iload_n 1, 1) := by decide +kernel
theorem d_Hart_compute_1 : decode b_Hart_compute 1 = .ok (.invokestatic 129, 3) := by decide +kernel
theorem d_Hart_compute_4 : decode b_Hart_compute 4 = .ok (.istore_n 2, 1) := by decide +kernel
theorem d_Hart_compute_5 : decode b_Hart_compute 5 = .ok (.iload_n 1, 1) := by decide +kernel
theorem d_Hart_compute_6 : decode b_Hart_compute 6 = .ok (.invokestatic 224, 3) := by decide +kernel
theorem d_Hart_compute_9 : decode b_Hart_compute 9 = .ok (.istore_n 3, 1) := by decide +kernel
theorem d_Hart_compute_10 : decode b_Hart_compute 10 = .ok (.aload_n 0, 1) := by decide +kernel
theorem d_Hart_compute_11 : decode b_Hart_compute 11 = .ok (.getfield 9, 3) := by decide +kernel
theorem d_Hart_compute_14 : decode b_Hart_compute 14 = .ok (.iload_n 1, 1) := by decide +kernel
theorem d_Hart_compute_15 : decode b_Hart_compute 15 = .ok (.invokestatic 192, 3) := by decide +kernel
theorem d_Hart_compute_18 : decode b_Hart_compute 18 = .ok (.iaload, 1) := by decide +kernel
theorem d_Hart_compute_19 : decode b_Hart_compute 19 = .ok (.istore 4, 2) := by decide +kernel
theorem d_Hart_compute_21 : decode b_Hart_compute 21 = .ok (.aload_n 0, 1) := by decide +kernel
theorem d_Hart_compute_22 : decode b_Hart_compute 22 = .ok (.getfield 9, 3) := by decide +kernel
theorem d_Hart_compute_25 : decode b_Hart_compute 25 = .ok (.iload_n 1, 1) := by decide +kernel
theorem d_Hart_compute_26 : decode b_Hart_compute 26 = .ok (.invokestatic 198, 3) := by decide +kernel
theorem d_Hart_compute_29 : decode b_Hart_compute 29 = .ok (.iaload, 1) := by decide +kernel
theorem d_Hart_compute_30 : decode b_Hart_compute 30 = .ok (.istore 5, 2) := by decide +kernel
theorem d_Hart_compute_32 : decode b_Hart_compute 32 = .ok (.iload_n 3, 1) := by decide +kernel
theorem d_Hart_compute_33 : decode b_Hart_compute 33 = .ok (.ifCond .ne 17, 3) := by decide +kernel
theorem d_Hart_compute_36 : decode b_Hart_compute 36 = .ok (.aload_n 0, 1) := by decide +kernel
theorem d_Hart_compute_37 : decode b_Hart_compute 37 = .ok (.iload_n 1, 1) := by decide +kernel
theorem d_Hart_compute_38 : decode b_Hart_compute 38 = .ok (.iload_n 2, 1) := by decide +kernel
theorem d_Hart_compute_39 : decode b_Hart_compute 39 = .ok (.iload 4, 2) := by decide +kernel
theorem d_Hart_compute_41 : decode b_Hart_compute 41 = .ok (.iload 5, 2) := by decide +kernel
theorem d_Hart_compute_43 : decode b_Hart_compute 43 = .ok (.invokestatic 227, 3) := by decide +kernel
theorem d_Hart_compute_46 : decode b_Hart_compute 46 = .ok (.invokevirtual 105, 3) := by decide +kernel
theorem d_Hart_compute_49 : decode b_Hart_compute 49 = .ok (.ireturn, 1) := by decide +kernel
theorem d_Hart_compute_50 : decode b_Hart_compute 50 = .ok (.iload_n 3, 1) := by decide +kernel
theorem d_Hart_compute_51 : decode b_Hart_compute 51 = .ok (.iconst 1, 1) := by decide +kernel
theorem d_Hart_compute_52 : decode b_Hart_compute 52 = .ok (.if_icmp .ne 33, 3) := by decide +kernel
theorem d_Hart_compute_55 : decode b_Hart_compute 55 = .ok (.aload_n 0, 1) := by decide +kernel
theorem d_Hart_compute_56 : decode b_Hart_compute 56 = .ok (.iload_n 1, 1) := by decide +kernel
theorem d_Hart_compute_57 : decode b_Hart_compute 57 = .ok (.iload_n 2, 1) := by decide +kernel
theorem d_Hart_compute_58 : decode b_Hart_compute 58 = .ok (.iconst 4, 1) := by decide +kernel
theorem d_Hart_compute_59 : decode b_Hart_compute 59 = .ok (.if_icmp .ge 14, 3) := by decide +kernel
theorem d_Hart_compute_62 : decode b_Hart_compute 62 = .ok (.iload_n 2, 1) := by decide +kernel
theorem d_Hart_compute_63 : decode b_Hart_compute 63 = .ok (.iload 4, 2) := by decide +kernel
theorem d_Hart_compute_65 : decode b_Hart_compute 65 = .ok (.iload 5, 2) := by decide +kernel
theorem d_Hart_compute_67 : decode b_Hart_compute 67 = .ok (.invokestatic 231, 3) := by decide +kernel
theorem d_Hart_compute_70 : decode b_Hart_compute 70 = .ok (.goto 11, 3) := by decide +kernel
theorem d_Hart_compute_73 : decode b_Hart_compute 73 = .ok (.iload_n 2, 1) := by decide +kernel
theorem d_Hart_compute_74 : decode b_Hart_compute 74 = .ok (.iload 4, 2) := by decide +kernel
theorem d_Hart_compute_76 : decode b_Hart_compute 76 = .ok (.iload 5, 2) := by decide +kernel
theorem d_Hart_compute_78 : decode b_Hart_compute 78 = .ok (.invokestatic 234, 3) := by decide +kernel
theorem d_Hart_compute_81 : decode b_Hart_compute 81 = .ok (.invokevirtual 105, 3) := by decide +kernel
theorem d_Hart_compute_84 : decode b_Hart_compute 84 = .ok (.ireturn, 1) := by decide +kernel
theorem d_Hart_compute_85 : decode b_Hart_compute 85 = .ok (.iload_n 3, 1) := by decide +kernel
theorem d_Hart_compute_86 : decode b_Hart_compute 86 = .ok (.bipush 32, 2) := by decide +kernel
theorem d_Hart_compute_88 : decode b_Hart_compute 88 = .ok (.if_icmp .ne 18, 3) := by decide +kernel
theorem d_Hart_compute_91 : decode b_Hart_compute 91 = .ok (.iload_n 2, 1) := by decide +kernel
theorem d_Hart_compute_92 : decode b_Hart_compute 92 = .ok (.ifCond .ne 14, 3) := by decide +kernel
theorem d_Hart_compute_95 : decode b_Hart_compute 95 = .ok (.aload_n 0, 1) := by decide +kernel
theorem d_Hart_compute_96 : decode b_Hart_compute 96 = .ok (.iload_n 1, 1) := by decide +kernel
theorem d_Hart_compute_97 : decode b_Hart_compute 97 = .ok (.iload 4, 2) := by decide +kernel
theorem d_Hart_compute_99 : decode b_Hart_compute 99 = .ok (.iload 5, 2) := by decide +kernel
theorem d_Hart_compute_101 : decode b_Hart_compute 101 = .ok (.isub, 1) := by decide +kernel
theorem d_Hart_compute_102 : decode b_Hart_compute 102 = .ok (.invokevirtual 105, 3) := by decide +kernel
theorem d_Hart_compute_105 : decode b_Hart_compute 105 = .ok (.ireturn, 1) := by decide +kernel
theorem d_Hart_compute_106 : decode b_Hart_compute 106 = .ok (.iload_n 3, 1) := by decide +kernel
theorem d_Hart_compute_107 : decode b_Hart_compute 107 = .ok (.bipush 32, 2) := by decide +kernel
theorem d_Hart_compute_109 : decode b_Hart_compute 109 = .ok (.if_icmp .ne 22, 3) := by decide +kernel
theorem d_Hart_compute_112 : decode b_Hart_compute 112 = .ok (.iload_n 2, 1) := by decide +kernel
theorem d_Hart_compute_113 : decode b_Hart_compute 113 = .ok (.iconst 5, 1) := by decide +kernel
theorem d_Hart_compute_114 : decode b_Hart_compute 114 = .ok (.if_icmp .ne 17, 3) := by decide +kernel
theorem d_Hart_compute_117 : decode b_Hart_compute 117 = .ok (.aload_n 0, 1) := by decide +kernel
theorem d_Hart_compute_118 : decode b_Hart_compute 118 = .ok (.iload_n 1, 1) := by decide +kernel
theorem d_Hart_compute_119 : decode b_Hart_compute 119 = .ok (.iload 4, 2) := by decide +kernel
theorem d_Hart_compute_121 : decode b_Hart_compute 121 = .ok (.iload 5, 2) := by decide +kernel
theorem d_Hart_compute_123 : decode b_Hart_compute 123 = .ok (.bipush 31, 2) := by decide +kernel
theorem d_Hart_compute_125 : decode b_Hart_compute 125 = .ok (.iand, 1) := by decide +kernel
theorem d_Hart_compute_126 : decode b_Hart_compute 126 = .ok (.ishr, 1) := by decide +kernel
theorem d_Hart_compute_127 : decode b_Hart_compute 127 = .ok (.invokevirtual 105, 3) := by decide +kernel
theorem d_Hart_compute_130 : decode b_Hart_compute 130 = .ok (.ireturn, 1) := by decide +kernel
theorem d_Hart_compute_131 : decode b_Hart_compute 131 = .ok (.aload_n 0, 1) := by decide +kernel
theorem d_Hart_compute_132 : decode b_Hart_compute 132 = .ok (.iload_n 1, 1) := by decide +kernel
theorem d_Hart_compute_133 : decode b_Hart_compute 133 = .ok (.invokevirtual 138, 3) := by decide +kernel
theorem d_Hart_compute_136 : decode b_Hart_compute 136 = .ok (.ireturn, 1) := by decide +kernel
theorem d_Hart_branch_0 : decode b_Hart_branch 0 = .ok (.iload_n 1, 1) := by decide +kernel
theorem d_Hart_branch_1 : decode b_Hart_branch 1 = .ok (.invokestatic 129, 3) := by decide +kernel
theorem d_Hart_branch_4 : decode b_Hart_branch 4 = .ok (.istore_n 2, 1) := by decide +kernel
theorem d_Hart_branch_5 : decode b_Hart_branch 5 = .ok (.iload_n 2, 1) := by decide +kernel
theorem d_Hart_branch_6 : decode b_Hart_branch 6 = .ok (.iconst 2, 1) := by decide +kernel
theorem d_Hart_branch_7 : decode b_Hart_branch 7 = .ok (.if_icmp .eq 8, 3) := by decide +kernel
theorem d_Hart_branch_10 : decode b_Hart_branch 10 = .ok (.iload_n 2, 1) := by decide +kernel
theorem d_Hart_branch_11 : decode b_Hart_branch 11 = .ok (.iconst 3, 1) := by decide +kernel
theorem d_Hart_branch_12 : decode b_Hart_branch 12 = .ok (.if_icmp .ne 9, 3) := by decide +kernel
theorem d_Hart_branch_15 : decode b_Hart_branch 15 = .ok (.aload_n 0, 1) := by decide +kernel
theorem d_Hart_branch_16 : decode b_Hart_branch 16 = .ok (.iload_n 1, 1) := by decide +kernel
theorem d_Hart_branch_17 : decode b_Hart_branch 17 = .ok (.invokevirtual 138, 3) := by decide +kernel
theorem d_Hart_branch_20 : decode b_Hart_branch 20 = .ok (.ireturn, 1) := by decide +kernel
theorem d_Hart_branch_21 : decode b_Hart_branch 21 = .ok (.iload_n 2, 1) := by decide +kernel
theorem d_Hart_branch_22 : decode b_Hart_branch 22 = .ok (.aload_n 0, 1) := by decide +kernel
theorem d_Hart_branch_23 : decode b_Hart_branch 23 = .ok (.getfield 9, 3) := by decide +kernel
theorem d_Hart_branch_26 : decode b_Hart_branch 26 = .ok (.iload_n 1, 1) := by decide +kernel
theorem d_Hart_branch_27 : decode b_Hart_branch 27 = .ok (.invokestatic 192, 3) := by decide +kernel
theorem d_Hart_branch_30 : decode b_Hart_branch 30 = .ok (.iaload, 1) := by decide +kernel
theorem d_Hart_branch_31 : decode b_Hart_branch 31 = .ok (.aload_n 0, 1) := by decide +kernel
theorem d_Hart_branch_32 : decode b_Hart_branch 32 = .ok (.getfield 9, 3) := by decide +kernel
theorem d_Hart_branch_35 : decode b_Hart_branch 35 = .ok (.iload_n 1, 1) := by decide +kernel
theorem d_Hart_branch_36 : decode b_Hart_branch 36 = .ok (.invokestatic 198, 3) := by decide +kernel
theorem d_Hart_branch_39 : decode b_Hart_branch 39 = .ok (.iaload, 1) := by decide +kernel
theorem d_Hart_branch_40 : decode b_Hart_branch 40 = .ok (.invokestatic 201, 3) := by decide +kernel
theorem d_Hart_branch_43 : decode b_Hart_branch 43 = .ok (.ifCond .ne 8, 3) := by decide +kernel
theorem d_Hart_branch_46 : decode b_Hart_branch 46 = .ok (.aload_n 0, 1) := by decide +kernel
theorem d_Hart_branch_47 : decode b_Hart_branch 47 = .ok (.invokevirtual 93, 3) := by decide +kernel
theorem d_Hart_branch_50 : decode b_Hart_branch 50 = .ok (.ireturn, 1) := by decide +kernel
theorem d_Hart_branch_51 : decode b_Hart_branch 51 = .ok (.aload_n 0, 1) := by decide +kernel
theorem d_Hart_branch_52 : decode b_Hart_branch 52 = .ok (.getfield 16, 3) := by decide +kernel
theorem d_Hart_branch_55 : decode b_Hart_branch 55 = .ok (.iload_n 1, 1) := by decide +kernel
theorem d_Hart_branch_56 : decode b_Hart_branch 56 = .ok (.invokestatic 207, 3) := by decide +kernel
theorem d_Hart_branch_59 : decode b_Hart_branch 59 = .ok (.iadd, 1) := by decide +kernel
theorem d_Hart_branch_60 : decode b_Hart_branch 60 = .ok (.istore_n 3, 1) := by decide +kernel
theorem d_Hart_branch_61 : decode b_Hart_branch 61 = .ok (.iload_n 3, 1) := by decide +kernel
theorem d_Hart_branch_62 : decode b_Hart_branch 62 = .ok (.iconst 3, 1) := by decide +kernel
theorem d_Hart_branch_63 : decode b_Hart_branch 63 = .ok (.iand, 1) := by decide +kernel
theorem d_Hart_branch_64 : decode b_Hart_branch 64 = .ok (.ifCond .eq 10, 3) := by decide +kernel
theorem d_Hart_branch_67 : decode b_Hart_branch 67 = .ok (.aload_n 0, 1) := by decide +kernel
theorem d_Hart_branch_68 : decode b_Hart_branch 68 = .ok (.iconst 0, 1) := by decide +kernel
theorem d_Hart_branch_69 : decode b_Hart_branch 69 = .ok (.iload_n 3, 1) := by decide +kernel
theorem d_Hart_branch_70 : decode b_Hart_branch 70 = .ok (.invokevirtual 148, 3) := by decide +kernel
theorem d_Hart_branch_73 : decode b_Hart_branch 73 = .ok (.ireturn, 1) := by decide +kernel
theorem d_Hart_branch_74 : decode b_Hart_branch 74 = .ok (.aload_n 0, 1) := by decide +kernel
theorem d_Hart_branch_75 : decode b_Hart_branch 75 = .ok (.iload_n 3, 1) := by decide +kernel
theorem d_Hart_branch_76 : decode b_Hart_branch 76 = .ok (.putfield 16, 3) := by decide +kernel
theorem d_Hart_branch_79 : decode b_Hart_branch 79 = .ok (.iconst 0, 1) := by decide +kernel
theorem d_Hart_branch_80 : decode b_Hart_branch 80 = .ok (.ireturn, 1) := by decide +kernel
theorem d_Hart_jump_0 : decode b_Hart_jump 0 = .ok (.iload_n 2, 1) := by decide +kernel
theorem d_Hart_jump_1 : decode b_Hart_jump 1 = .ok (.iconst 3, 1) := by decide +kernel
theorem d_Hart_jump_2 : decode b_Hart_jump 2 = .ok (.iand, 1) := by decide +kernel
theorem d_Hart_jump_3 : decode b_Hart_jump 3 = .ok (.ifCond .eq 10, 3) := by decide +kernel
theorem d_Hart_jump_6 : decode b_Hart_jump 6 = .ok (.aload_n 0, 1) := by decide +kernel
theorem d_Hart_jump_7 : decode b_Hart_jump 7 = .ok (.iconst 0, 1) := by decide +kernel
theorem d_Hart_jump_8 : decode b_Hart_jump 8 = .ok (.iload_n 2, 1) := by decide +kernel
theorem d_Hart_jump_9 : decode b_Hart_jump 9 = .ok (.invokevirtual 148, 3) := by decide +kernel
theorem d_Hart_jump_12 : decode b_Hart_jump 12 = .ok (.ireturn, 1) := by decide +kernel
theorem d_Hart_jump_13 : decode b_Hart_jump 13 = .ok (.aload_n 0, 1) := by decide +kernel
theorem d_Hart_jump_14 : decode b_Hart_jump 14 = .ok (.iload_n 1, 1) := by decide +kernel
theorem d_Hart_jump_15 : decode b_Hart_jump 15 = .ok (.invokestatic 141, 3) := by decide +kernel
theorem d_Hart_jump_18 : decode b_Hart_jump 18 = .ok (.aload_n 0, 1) := by decide +kernel
theorem d_Hart_jump_19 : decode b_Hart_jump 19 = .ok (.getfield 16, 3) := by decide +kernel
theorem d_Hart_jump_22 : decode b_Hart_jump 22 = .ok (.iconst 4, 1) := by decide +kernel
theorem d_Hart_jump_23 : decode b_Hart_jump 23 = .ok (.iadd, 1) := by decide +kernel
theorem d_Hart_jump_24 : decode b_Hart_jump 24 = .ok (.invokevirtual 144, 3) := by decide +kernel
theorem d_Hart_jump_27 : decode b_Hart_jump 27 = .ok (.aload_n 0, 1) := by decide +kernel
theorem d_Hart_jump_28 : decode b_Hart_jump 28 = .ok (.iload_n 2, 1) := by decide +kernel
theorem d_Hart_jump_29 : decode b_Hart_jump 29 = .ok (.putfield 16, 3) := by decide +kernel
theorem d_Hart_jump_32 : decode b_Hart_jump 32 = .ok (.iconst 0, 1) := by decide +kernel
theorem d_Hart_jump_33 : decode b_Hart_jump 33 = .ok (.ireturn, 1) := by decide +kernel
theorem d_Hart_jumpByRegister_0 : decode b_Hart_jumpByRegister 0 = .ok (.iload_n 1, 1) := by decide +kernel
theorem d_Hart_jumpByRegister_1 : decode b_Hart_jumpByRegister 1 = .ok (.invokestatic 129, 3) := by decide +kernel
theorem d_Hart_jumpByRegister_4 : decode b_Hart_jumpByRegister 4 = .ok (.ifCond .eq 9, 3) := by decide +kernel
theorem d_Hart_jumpByRegister_7 : decode b_Hart_jumpByRegister 7 = .ok (.aload_n 0, 1) := by decide +kernel
theorem d_Hart_jumpByRegister_8 : decode b_Hart_jumpByRegister 8 = .ok (.iload_n 1, 1) := by decide +kernel
theorem d_Hart_jumpByRegister_9 : decode b_Hart_jumpByRegister 9 = .ok (.invokevirtual 138, 3) := by decide +kernel
theorem d_Hart_jumpByRegister_12 : decode b_Hart_jumpByRegister 12 = .ok (.ireturn, 1) := by decide +kernel
theorem d_Hart_jumpByRegister_13 : decode b_Hart_jumpByRegister 13 = .ok (.aload_n 0, 1) := by decide +kernel
theorem d_Hart_jumpByRegister_14 : decode b_Hart_jumpByRegister 14 = .ok (.iload_n 1, 1) := by decide +kernel
theorem d_Hart_jumpByRegister_15 : decode b_Hart_jumpByRegister 15 = .ok (.aload_n 0, 1) := by decide +kernel
theorem d_Hart_jumpByRegister_16 : decode b_Hart_jumpByRegister 16 = .ok (.getfield 9, 3) := by decide +kernel
theorem d_Hart_jumpByRegister_19 : decode b_Hart_jumpByRegister 19 = .ok (.iload_n 1, 1) := by decide +kernel
theorem d_Hart_jumpByRegister_20 : decode b_Hart_jumpByRegister 20 = .ok (.invokestatic 192, 3) := by decide +kernel
theorem d_Hart_jumpByRegister_23 : decode b_Hart_jumpByRegister 23 = .ok (.iaload, 1) := by decide +kernel
theorem d_Hart_jumpByRegister_24 : decode b_Hart_jumpByRegister 24 = .ok (.iload_n 1, 1) := by decide +kernel
theorem d_Hart_jumpByRegister_25 : decode b_Hart_jumpByRegister 25 = .ok (.invokestatic 195, 3) := by decide +kernel
theorem d_Hart_jumpByRegister_28 : decode b_Hart_jumpByRegister 28 = .ok (.iadd, 1) := by decide +kernel
theorem d_Hart_jumpByRegister_29 : decode b_Hart_jumpByRegister 29 = .ok (.bipush (-2), 2) := by decide +kernel
theorem d_Hart_jumpByRegister_31 : decode b_Hart_jumpByRegister 31 = .ok (.iand, 1) := by decide +kernel
theorem d_Hart_jumpByRegister_32 : decode b_Hart_jumpByRegister 32 = .ok (.invokevirtual 126, 3) := by decide +kernel
theorem d_Hart_jumpByRegister_35 : decode b_Hart_jumpByRegister 35 = .ok (.ireturn, 1) := by decide +kernel
theorem d_Hart_returnFromMachine_0 : decode b_Hart_returnFromMachine 0 = .ok (.aload_n 0, 1) := by decide +kernel
theorem d_Hart_returnFromMachine_1 : decode b_Hart_returnFromMachine 1 = .ok (.aload_n 0, 1) := by decide +kernel
theorem d_Hart_returnFromMachine_2 : decode b_Hart_returnFromMachine 2 = .ok (.getfield 34, 3) := by decide +kernel
theorem d_Hart_returnFromMachine_5 : decode b_Hart_returnFromMachine 5 = .ok (.invokevirtual 264, 3) := by decide +kernel
theorem d_Hart_returnFromMachine_8 : decode b_Hart_returnFromMachine 8 = .ok (.putfield 20, 3) := by decide +kernel
theorem d_Hart_returnFromMachine_11 : decode b_Hart_returnFromMachine 11 = .ok (.aload_n 0, 1) := by decide +kernel
theorem d_Hart_returnFromMachine_12 : decode b_Hart_returnFromMachine 12 = .ok (.aload_n 0, 1) := by decide +kernel
theorem d_Hart_returnFromMachine_13 : decode b_Hart_returnFromMachine 13 = .ok (.getfield 34, 3) := by decide +kernel
theorem d_Hart_returnFromMachine_16 : decode b_Hart_returnFromMachine 16 = .ok (.getfield 267, 3) := by decide +kernel
theorem d_Hart_returnFromMachine_19 : decode b_Hart_returnFromMachine 19 = .ok (.putfield 16, 3) := by decide +kernel
theorem d_Hart_returnFromMachine_22 : decode b_Hart_returnFromMachine 22 = .ok (.iconst 0, 1) := by decide +kernel
theorem d_Hart_returnFromMachine_23 : decode b_Hart_returnFromMachine 23 = .ok (.ireturn, 1) := by decide +kernel
theorem d_Hart_returnFromSupervisor_0 : decode b_Hart_returnFromSupervisor 0 = .ok (.aload_n 0, 1) := by decide +kernel
theorem d_Hart_returnFromSupervisor_1 : decode b_Hart_returnFromSupervisor 1 = .ok (.aload_n 0, 1) := by decide +kernel
theorem d_Hart_returnFromSupervisor_2 : decode b_Hart_returnFromSupervisor 2 = .ok (.getfield 34, 3) := by decide +kernel
theorem d_Hart_returnFromSupervisor_5 : decode b_Hart_returnFromSupervisor 5 = .ok (.invokevirtual 270, 3) := by decide +kernel
theorem d_Hart_returnFromSupervisor_8 : decode b_Hart_returnFromSupervisor 8 = .ok (.putfield 20, 3) := by decide +kernel
theorem d_Hart_returnFromSupervisor_11 : decode b_Hart_returnFromSupervisor 11 = .ok (.aload_n 0, 1) := by decide +kernel
theorem d_Hart_returnFromSupervisor_12 : decode b_Hart_returnFromSupervisor 12 = .ok (.aload_n 0, 1) := by decide +kernel
theorem d_Hart_returnFromSupervisor_13 : decode b_Hart_returnFromSupervisor 13 = .ok (.getfield 34, 3) := by decide +kernel
theorem d_Hart_returnFromSupervisor_16 : decode b_Hart_returnFromSupervisor 16 = .ok (.getfield 273, 3) := by decide +kernel
theorem d_Hart_returnFromSupervisor_19 : decode b_Hart_returnFromSupervisor 19 = .ok (.putfield 16, 3) := by decide +kernel
theorem d_Hart_returnFromSupervisor_22 : decode b_Hart_returnFromSupervisor 22 = .ok (.iconst 0, 1) := by decide +kernel
theorem d_Hart_returnFromSupervisor_23 : decode b_Hart_returnFromSupervisor 23 = .ok (.ireturn, 1) := by decide +kernel
theorem d_Hart_callSystem_0 : decode b_Hart_callSystem 0 = .ok (.iload_n 1, 1) := by decide +kernel
theorem d_Hart_callSystem_1 : decode b_Hart_callSystem 1 = .ok (.lookupswitch 121 #[(115, 51), (1048691, 64), (270532723, 100), (273678451, 74), (807403635, 79)], 51) := by decide +kernel
theorem d_Hart_callSystem_52 : decode b_Hart_callSystem 52 = .ok (.aload_n 0, 1) := by decide +kernel
theorem d_Hart_callSystem_53 : decode b_Hart_callSystem 53 = .ok (.bipush 8, 2) := by decide +kernel
theorem d_Hart_callSystem_55 : decode b_Hart_callSystem 55 = .ok (.aload_n 0, 1) := by decide +kernel
theorem d_Hart_callSystem_56 : decode b_Hart_callSystem 56 = .ok (.getfield 20, 3) := by decide +kernel
theorem d_Hart_callSystem_59 : decode b_Hart_callSystem 59 = .ok (.iadd, 1) := by decide +kernel
theorem d_Hart_callSystem_60 : decode b_Hart_callSystem 60 = .ok (.iconst 0, 1) := by decide +kernel
theorem d_Hart_callSystem_61 : decode b_Hart_callSystem 61 = .ok (.invokevirtual 148, 3) := by decide +kernel
theorem d_Hart_callSystem_64 : decode b_Hart_callSystem 64 = .ok (.ireturn, 1) := by decide +kernel
theorem d_Hart_callSystem_65 : decode b_Hart_callSystem 65 = .ok (.aload_n 0, 1) := by decide +kernel
theorem d_Hart_callSystem_66 : decode b_Hart_callSystem 66 = .ok (.iconst 3, 1) := by decide +kernel
theorem d_Hart_callSystem_67 : decode b_Hart_callSystem 67 = .ok (.aload_n 0, 1) := by decide +kernel
theorem d_Hart_callSystem_68 : decode b_Hart_callSystem 68 = .ok (.getfield 16, 3) := by decide +kernel
theorem d_Hart_callSystem_71 : decode b_Hart_callSystem 71 = .ok (.invokevirtual 148, 3) := by decide +kernel
theorem d_Hart_callSystem_74 : decode b_Hart_callSystem 74 = .ok (.ireturn, 1) := by decide +kernel
theorem d_Hart_callSystem_75 : decode b_Hart_callSystem 75 = .ok (.aload_n 0, 1) := by decide +kernel
theorem d_Hart_callSystem_76 : decode b_Hart_callSystem 76 = .ok (.invokevirtual 93, 3) := by decide +kernel
theorem d_Hart_callSystem_79 : decode b_Hart_callSystem 79 = .ok (.ireturn, 1) := by decide +kernel
theorem d_Hart_callSystem_80 : decode b_Hart_callSystem 80 = .ok (.aload_n 0, 1) := by decide +kernel
theorem d_Hart_callSystem_81 : decode b_Hart_callSystem 81 = .ok (.getfield 20, 3) := by decide +kernel
theorem d_Hart_callSystem_84 : decode b_Hart_callSystem 84 = .ok (.iconst 3, 1) := by decide +kernel
theorem d_Hart_callSystem_85 : decode b_Hart_callSystem 85 = .ok (.if_icmp .ne 10, 3) := by decide +kernel
theorem d_Hart_callSystem_88 : decode b_Hart_callSystem 88 = .ok (.aload_n 0, 1) := by decide +kernel
theorem d_Hart_callSystem_89 : decode b_Hart_callSystem 89 = .ok (.invokevirtual 258, 3) := by decide +kernel
theorem d_Hart_callSystem_92 : decode b_Hart_callSystem 92 = .ok (.goto 8, 3) := by decide +kernel
theorem d_Hart_callSystem_95 : decode b_Hart_callSystem 95 = .ok (.aload_n 0, 1) := by decide +kernel
theorem d_Hart_callSystem_96 : decode b_Hart_callSystem 96 = .ok (.iload_n 1, 1) := by decide +kernel
theorem d_Hart_callSystem_97 : decode b_Hart_callSystem 97 = .ok (.invokevirtual 138, 3) := by decide +kernel
theorem d_Hart_callSystem_100 : decode b_Hart_callSystem 100 = .ok (.ireturn, 1) := by decide +kernel
theorem d_Hart_callSystem_101 : decode b_Hart_callSystem 101 = .ok (.aload_n 0, 1) := by decide +kernel
theorem d_Hart_callSystem_102 : decode b_Hart_callSystem 102 = .ok (.getfield 20, 3) := by decide +kernel
theorem d_Hart_callSystem_105 : decode b_Hart_callSystem 105 = .ok (.iconst 1, 1) := by decide +kernel
theorem d_Hart_callSystem_106 : decode b_Hart_callSystem 106 = .ok (.if_icmp .lt 10, 3) := by decide +kernel
theorem d_Hart_callSystem_109 : decode b_Hart_callSystem 109 = .ok (.aload_n 0, 1) := by decide +kernel
theorem d_Hart_callSystem_110 : decode b_Hart_callSystem 110 = .ok (.invokevirtual 261, 3) := by decide +kernel
theorem d_Hart_callSystem_113 : decode b_Hart_callSystem 113 = .ok (.goto 8, 3) := by decide +kernel
theorem d_Hart_callSystem_116 : decode b_Hart_callSystem 116 = .ok (.aload_n 0, 1) := by decide +kernel
theorem d_Hart_callSystem_117 : decode b_Hart_callSystem 117 = .ok (.iload_n 1, 1) := by decide +kernel
theorem d_Hart_callSystem_118 : decode b_Hart_callSystem 118 = .ok (.invokevirtual 138, 3) := by decide +kernel
theorem d_Hart_callSystem_121 : decode b_Hart_callSystem 121 = .ok (.ireturn, 1) := by decide +kernel
theorem d_Hart_callSystem_122 : decode b_Hart_callSystem 122 = .ok (.iload_n 1, 1) := by decide +kernel
theorem d_Hart_callSystem_123 : decode b_Hart_callSystem 123 = .ok (.invokestatic 224, 3) := by decide +kernel
theorem d_Hart_callSystem_126 : decode b_Hart_callSystem 126 = .ok (.bipush 9, 2) := by decide +kernel
theorem d_Hart_callSystem_128 : decode b_Hart_callSystem 128 = .ok (.if_icmp .ne 14, 3) := by decide +kernel
theorem d_Hart_callSystem_131 : decode b_Hart_callSystem 131 = .ok (.iload_n 1, 1) := by decide +kernel
theorem d_Hart_callSystem_132 : decode b_Hart_callSystem 132 = .ok (.invokestatic 141, 3) := by decide +kernel
theorem d_Hart_callSystem_135 : decode b_Hart_callSystem 135 = .ok (.ifCond .ne 7, 3) := by decide +kernel
theorem d_Hart_callSystem_138 : decode b_Hart_callSystem 138 = .ok (.iconst 1, 1) := by decide +kernel
theorem d_Hart_callSystem_139 : decode b_Hart_callSystem 139 = .ok (.goto 4, 3) := by decide +kernel
theorem d_Hart_callSystem_142 : decode b_Hart_callSystem 142 = .ok (.iconst 0, 1) := by decide +kernel
theorem d_Hart_callSystem_143 : decode b_Hart_callSystem 143 = .ok (.istore_n 2, 1) := by decide +kernel
theorem d_Hart_callSystem_144 : decode b_Hart_callSystem 144 = .ok (.iload_n 2, 1) := by decide +kernel
theorem d_Hart_callSystem_145 : decode b_Hart_callSystem 145 = .ok (.ifCond .eq 18, 3) := by decide +kernel
theorem d_Hart_callSystem_148 : decode b_Hart_callSystem 148 = .ok (.aload_n 0, 1) := by decide +kernel
theorem d_Hart_callSystem_149 : decode b_Hart_callSystem 149 = .ok (.getfield 20, 3) := by decide +kernel
theorem d_Hart_callSystem_152 : decode b_Hart_callSystem 152 = .ok (.iconst 1, 1) := by decide +kernel
theorem d_Hart_callSystem_153 : decode b_Hart_callSystem 153 = .ok (.if_icmp .lt 10, 3) := by decide +kernel
theorem d_Hart_callSystem_156 : decode b_Hart_callSystem 156 = .ok (.aload_n 0, 1) := by decide +kernel
theorem d_Hart_callSystem_157 : decode b_Hart_callSystem 157 = .ok (.invokevirtual 93, 3) := by decide +kernel
theorem d_Hart_callSystem_160 : decode b_Hart_callSystem 160 = .ok (.goto 8, 3) := by decide +kernel
theorem d_Hart_callSystem_163 : decode b_Hart_callSystem 163 = .ok (.aload_n 0, 1) := by decide +kernel
theorem d_Hart_callSystem_164 : decode b_Hart_callSystem 164 = .ok (.iload_n 1, 1) := by decide +kernel
theorem d_Hart_callSystem_165 : decode b_Hart_callSystem 165 = .ok (.invokevirtual 138, 3) := by decide +kernel
theorem d_Hart_callSystem_168 : decode b_Hart_callSystem 168 = .ok (.ireturn, 1) := by decide +kernel
theorem d_Hart_mixed_0 : decode b_Hart_mixed 0 = .ok (.iload_n 0, 1) := by decide +kernel
theorem d_Hart_mixed_1 : decode b_Hart_mixed 1 = .ok (.lookupswitch 33 #[(1, 27), (2, 29)], 27) := by decide +kernel
theorem d_Hart_mixed_28 : decode b_Hart_mixed 28 = .ok (.iload_n 2, 1) := by decide +kernel
theorem d_Hart_mixed_29 : decode b_Hart_mixed 29 = .ok (.ireturn, 1) := by decide +kernel
theorem d_Hart_mixed_30 : decode b_Hart_mixed 30 = .ok (.iload_n 1, 1) := by decide +kernel
theorem d_Hart_mixed_31 : decode b_Hart_mixed 31 = .ok (.iload_n 2, 1) := by decide +kernel
theorem d_Hart_mixed_32 : decode b_Hart_mixed 32 = .ok (.ior, 1) := by decide +kernel
theorem d_Hart_mixed_33 : decode b_Hart_mixed 33 = .ok (.ireturn, 1) := by decide +kernel
theorem d_Hart_mixed_34 : decode b_Hart_mixed 34 = .ok (.iload_n 1, 1) := by decide +kernel
theorem d_Hart_mixed_35 : decode b_Hart_mixed 35 = .ok (.iload_n 2, 1) := by decide +kernel
theorem d_Hart_mixed_36 : decode b_Hart_mixed 36 = .ok (.iconst (-1), 1) := by decide +kernel
theorem d_Hart_mixed_37 : decode b_Hart_mixed 37 = .ok (.ixor, 1) := by decide +kernel
theorem d_Hart_mixed_38 : decode b_Hart_mixed 38 = .ok (.iand, 1) := by decide +kernel
theorem d_Hart_mixed_39 : decode b_Hart_mixed 39 = .ok (.ireturn, 1) := by decide +kernel
theorem d_Hart_exchange_0 : decode b_Hart_exchange 0 = .ok (.iload_n 1, 1) := by decide +kernel
theorem d_Hart_exchange_1 : decode b_Hart_exchange 1 = .ok (.invokestatic 129, 3) := by decide +kernel
theorem d_Hart_exchange_4 : decode b_Hart_exchange 4 = .ok (.istore_n 3, 1) := by decide +kernel
theorem d_Hart_exchange_5 : decode b_Hart_exchange 5 = .ok (.iload_n 1, 1) := by decide +kernel
theorem d_Hart_exchange_6 : decode b_Hart_exchange 6 = .ok (.invokestatic 192, 3) := by decide +kernel
theorem d_Hart_exchange_9 : decode b_Hart_exchange 9 = .ok (.istore 4, 2) := by decide +kernel
theorem d_Hart_exchange_11 : decode b_Hart_exchange 11 = .ok (.iload_n 1, 1) := by decide +kernel
theorem d_Hart_exchange_12 : decode b_Hart_exchange 12 = .ok (.bipush 20, 2) := by decide +kernel
theorem d_Hart_exchange_14 : decode b_Hart_exchange 14 = .ok (.iushr, 1) := by decide +kernel
theorem d_Hart_exchange_15 : decode b_Hart_exchange 15 = .ok (.istore 5, 2) := by decide +kernel
theorem d_Hart_exchange_17 : decode b_Hart_exchange 17 = .ok (.iload_n 3, 1) := by decide +kernel
theorem d_Hart_exchange_18 : decode b_Hart_exchange 18 = .ok (.iconst 3, 1) := by decide +kernel
theorem d_Hart_exchange_19 : decode b_Hart_exchange 19 = .ok (.iand, 1) := by decide +kernel
theorem d_Hart_exchange_20 : decode b_Hart_exchange 20 = .ok (.istore 6, 2) := by decide +kernel
theorem d_Hart_exchange_22 : decode b_Hart_exchange 22 = .ok (.iload 6, 2) := by decide +kernel
theorem d_Hart_exchange_24 : decode b_Hart_exchange 24 = .ok (.iconst 1, 1) := by decide +kernel
theorem d_Hart_exchange_25 : decode b_Hart_exchange 25 = .ok (.if_icmp .eq 8, 3) := by decide +kernel
theorem d_Hart_exchange_28 : decode b_Hart_exchange 28 = .ok (.iload 4, 2) := by decide +kernel
theorem d_Hart_exchange_30 : decode b_Hart_exchange 30 = .ok (.ifCond .eq 7, 3) := by decide +kernel
theorem d_Hart_exchange_33 : decode b_Hart_exchange 33 = .ok (.iconst 1, 1) := by decide +kernel
theorem d_Hart_exchange_34 : decode b_Hart_exchange 34 = .ok (.goto 4, 3) := by decide +kernel
theorem d_Hart_exchange_37 : decode b_Hart_exchange 37 = .ok (.iconst 0, 1) := by decide +kernel
theorem d_Hart_exchange_38 : decode b_Hart_exchange 38 = .ok (.istore 7, 2) := by decide +kernel
theorem d_Hart_exchange_40 : decode b_Hart_exchange 40 = .ok (.iload 6, 2) := by decide +kernel
theorem d_Hart_exchange_42 : decode b_Hart_exchange 42 = .ok (.ifCond .eq 17, 3) := by decide +kernel
theorem d_Hart_exchange_45 : decode b_Hart_exchange 45 = .ok (.iload 5, 2) := by decide +kernel
theorem d_Hart_exchange_47 : decode b_Hart_exchange 47 = .ok (.aload_n 0, 1) := by decide +kernel
theorem d_Hart_exchange_48 : decode b_Hart_exchange 48 = .ok (.getfield 20, 3) := by decide +kernel
theorem d_Hart_exchange_51 : decode b_Hart_exchange 51 = .ok (.iload 7, 2) := by decide +kernel
theorem d_Hart_exchange_53 : decode b_Hart_exchange 53 = .ok (.invokestatic 276, 3) := by decide +kernel
theorem d_Hart_exchange_56 : decode b_Hart_exchange 56 = .ok (.ifCond .ne 9, 3) := by decide +kernel
theorem d_Hart_exchange_59 : decode b_Hart_exchange 59 = .ok (.aload_n 0, 1) := by decide +kernel
theorem d_Hart_exchange_60 : decode b_Hart_exchange 60 = .ok (.iload_n 1, 1) := by decide +kernel
theorem d_Hart_exchange_61 : decode b_Hart_exchange 61 = .ok (.invokevirtual 138, 3) := by decide +kernel
theorem d_Hart_exchange_64 : decode b_Hart_exchange 64 = .ok (.ireturn, 1) := by decide +kernel
theorem d_Hart_exchange_65 : decode b_Hart_exchange 65 = .ok (.iload_n 3, 1) := by decide +kernel
theorem d_Hart_exchange_66 : decode b_Hart_exchange 66 = .ok (.iconst 4, 1) := by decide +kernel
theorem d_Hart_exchange_67 : decode b_Hart_exchange 67 = .ok (.if_icmp .le 8, 3) := by decide +kernel
theorem d_Hart_exchange_70 : decode b_Hart_exchange 70 = .ok (.iload 4, 2) := by decide +kernel
theorem d_Hart_exchange_72 : decode b_Hart_exchange 72 = .ok (.goto 10, 3) := by decide +kernel
theorem d_Hart_exchange_75 : decode b_Hart_exchange 75 = .ok (.aload_n 0, 1) := by decide +kernel
theorem d_Hart_exchange_76 : decode b_Hart_exchange 76 = .ok (.getfield 9, 3) := by decide +kernel
theorem d_Hart_exchange_79 : decode b_Hart_exchange 79 = .ok (.iload 4, 2) := by decide +kernel
theorem d_Hart_exchange_81 : decode b_Hart_exchange 81 = .ok (.iaload, 1) := by decide +kernel
theorem d_Hart_exchange_82 : decode b_Hart_exchange 82 = .ok (.istore 8, 2) := by decide +kernel
theorem d_Hart_exchange_84 : decode b_Hart_exchange 84 = .ok (.aload_n 0, 1) := by decide +kernel
theorem d_Hart_exchange_85 : decode b_Hart_exchange 85 = .ok (.getfield 34, 3) := by decide +kernel
theorem d_Hart_exchange_88 : decode b_Hart_exchange 88 = .ok (.iload 5, 2) := by decide +kernel
theorem d_Hart_exchange_90 : decode b_Hart_exchange 90 = .ok (.aload_n 2, 1) := by decide +kernel
theorem d_Hart_exchange_91 : decode b_Hart_exchange 91 = .ok (.getfield 41, 3) := by decide +kernel
theorem d_Hart_exchange_94 : decode b_Hart_exchange 94 = .ok (.aload_n 0, 1) := by decide +kernel
theorem d_Hart_exchange_95 : decode b_Hart_exchange 95 = .ok (.getfield 26, 3) := by decide +kernel
theorem d_Hart_exchange_98 : decode b_Hart_exchange 98 = .ok (.invokevirtual 47, 3) := by decide +kernel
theorem d_Hart_exchange_101 : decode b_Hart_exchange 101 = .ok (.invokevirtual 280, 3) := by decide +kernel
theorem d_Hart_exchange_104 : decode b_Hart_exchange 104 = .ok (.istore 9, 2) := by decide +kernel
theorem d_Hart_exchange_106 : decode b_Hart_exchange 106 = .ok (.iload 7, 2) := by decide +kernel
theorem d_Hart_exchange_108 : decode b_Hart_exchange 108 = .ok (.ifCond .eq 21, 3) := by decide +kernel
theorem d_Hart_exchange_111 : decode b_Hart_exchange 111 = .ok (.aload_n 0, 1) := by decide +kernel
theorem d_Hart_exchange_112 : decode b_Hart_exchange 112 = .ok (.getfield 34, 3) := by decide +kernel
theorem d_Hart_exchange_115 : decode b_Hart_exchange 115 = .ok (.iload 5, 2) := by decide +kernel
theorem d_Hart_exchange_117 : decode b_Hart_exchange 117 = .ok (.iload 6, 2) := by decide +kernel
theorem d_Hart_exchange_119 : decode b_Hart_exchange 119 = .ok (.iload 9, 2) := by decide +kernel
theorem d_Hart_exchange_121 : decode b_Hart_exchange 121 = .ok (.iload 8, 2) := by decide +kernel
theorem d_Hart_exchange_123 : decode b_Hart_exchange 123 = .ok (.invokestatic 283, 3) := by decide +kernel
theorem d_Hart_exchange_126 : decode b_Hart_exchange 126 = .ok (.invokevirtual 286, 3) := by decide +kernel
theorem d_Hart_exchange_129 : decode b_Hart_exchange 129 = .ok (.aload_n 0, 1) := by decide +kernel
theorem d_Hart_exchange_130 : decode b_Hart_exchange 130 = .ok (.iload_n 1, 1) := by decide +kernel
theorem d_Hart_exchange_131 : decode b_Hart_exchange 131 = .ok (.iload 9, 2) := by decide +kernel
theorem d_Hart_exchange_133 : decode b_Hart_exchange 133 = .ok (.invokevirtual 105, 3) := by decide +kernel
theorem d_Hart_exchange_136 : decode b_Hart_exchange 136 = .ok (.ireturn, 1) := by decide +kernel
theorem d_Hart_execute_0 : decode b_Hart_execute 0 = .ok (.iload_n 1, 1) := by decide +kernel
theorem d_Hart_execute_1 : decode b_Hart_execute 1 = .ok (.bipush 127, 2) := by decide +kernel
theorem d_Hart_execute_3 : decode b_Hart_execute 3 = .ok (.iand, 1) := by decide +kernel
theorem d_Hart_execute_4 : decode b_Hart_execute 4 = .ok (.lookupswitch 220 #[(3, 108), (15, 115), (19, 120), (23, 126), (35, 141), (47, 148), (51, 155), (55, 161), (99, 171), (103, 177), (111, 183), (115, 198)], 108) := by decide +kernel
theorem d_Hart_execute_112 : decode b_Hart_execute 112 = .ok (.aload_n 0, 1) := by decide +kernel
theorem d_Hart_execute_113 : decode b_Hart_execute 113 = .ok (.iload_n 1, 1) := by decide +kernel
theorem d_Hart_execute_114 : decode b_Hart_execute 114 = .ok (.aload_n 2, 1) := by decide +kernel
theorem d_Hart_execute_115 : decode b_Hart_execute 115 = .ok (.invokevirtual 90, 3) := by decide +kernel
theorem d_Hart_execute_118 : decode b_Hart_execute 118 = .ok (.ireturn, 1) := by decide +kernel
theorem d_Hart_execute_119 : decode b_Hart_execute 119 = .ok (.aload_n 0, 1) := by decide +kernel
theorem d_Hart_execute_120 : decode b_Hart_execute 120 = .ok (.invokevirtual 93, 3) := by decide +kernel
theorem d_Hart_execute_123 : decode b_Hart_execute 123 = .ok (.ireturn, 1) := by decide +kernel
theorem d_Hart_execute_124 : decode b_Hart_execute 124 = .ok (.aload_n 0, 1) := by decide +kernel
theorem d_Hart_execute_125 : decode b_Hart_execute 125 = .ok (.iload_n 1, 1) := by decide +kernel
theorem d_Hart_execute_126 : decode b_Hart_execute 126 = .ok (.invokevirtual 97, 3) := by decide +kernel
theorem d_Hart_execute_129 : decode b_Hart_execute 129 = .ok (.ireturn, 1) := by decide +kernel
theorem d_Hart_execute_130 : decode b_Hart_execute 130 = .ok (.aload_n 0, 1) := by decide +kernel
theorem d_Hart_execute_131 : decode b_Hart_execute 131 = .ok (.iload_n 1, 1) := by decide +kernel
theorem d_Hart_execute_132 : decode b_Hart_execute 132 = .ok (.aload_n 0, 1) := by decide +kernel
theorem d_Hart_execute_133 : decode b_Hart_execute 133 = .ok (.getfield 16, 3) := by decide +kernel
theorem d_Hart_execute_136 : decode b_Hart_execute 136 = .ok (.iload_n 1, 1) := by decide +kernel
theorem d_Hart_execute_137 : decode b_Hart_execute 137 = .ok (.invokestatic 100, 3) := by decide +kernel
theorem d_Hart_execute_140 : decode b_Hart_execute 140 = .ok (.iadd, 1) := by decide +kernel
theorem d_Hart_execute_141 : decode b_Hart_execute 141 = .ok (.invokevirtual 105, 3) := by decide +kernel
theorem d_Hart_execute_144 : decode b_Hart_execute 144 = .ok (.ireturn, 1) := by decide +kernel
theorem d_Hart_execute_145 : decode b_Hart_execute 145 = .ok (.aload_n 0, 1) := by decide +kernel
theorem d_Hart_execute_146 : decode b_Hart_execute 146 = .ok (.iload_n 1, 1) := by decide +kernel
theorem d_Hart_execute_147 : decode b_Hart_execute 147 = .ok (.aload_n 2, 1) := by decide +kernel
theorem d_Hart_execute_148 : decode b_Hart_execute 148 = .ok (.invokevirtual 108, 3) := by decide +kernel
theorem d_Hart_execute_151 : decode b_Hart_execute 151 = .ok (.ireturn, 1) := by decide +kernel
theorem d_Hart_execute_152 : decode b_Hart_execute 152 = .ok (.aload_n 0, 1) := by decide +kernel
theorem d_Hart_execute_153 : decode b_Hart_execute 153 = .ok (.iload_n 1, 1) := by decide +kernel
theorem d_Hart_execute_154 : decode b_Hart_execute 154 = .ok (.aload_n 2, 1) := by decide +kernel
theorem d_Hart_execute_155 : decode b_Hart_execute 155 = .ok (.invokevirtual 111, 3) := by decide +kernel
theorem d_Hart_execute_158 : decode b_Hart_execute 158 = .ok (.ireturn, 1) := by decide +kernel
theorem d_Hart_execute_159 : decode b_Hart_execute 159 = .ok (.aload_n 0, 1) := by decide +kernel
theorem d_Hart_execute_160 : decode b_Hart_execute 160 = .ok (.iload_n 1, 1) := by decide +kernel
theorem d_Hart_execute_161 : decode b_Hart_execute 161 = .ok (.invokevirtual 114, 3) := by decide +kernel
theorem d_Hart_execute_164 : decode b_Hart_execute 164 = .ok (.ireturn, 1) := by decide +kernel
theorem d_Hart_execute_165 : decode b_Hart_execute 165 = .ok (.aload_n 0, 1) := by decide +kernel
theorem d_Hart_execute_166 : decode b_Hart_execute 166 = .ok (.iload_n 1, 1) := by decide +kernel
theorem d_Hart_execute_167 : decode b_Hart_execute 167 = .ok (.iload_n 1, 1) := by decide +kernel
theorem d_Hart_execute_168 : decode b_Hart_execute 168 = .ok (.invokestatic 100, 3) := by decide +kernel
theorem d_Hart_execute_171 : decode b_Hart_execute 171 = .ok (.invokevirtual 105, 3) := by decide +kernel
theorem d_Hart_execute_174 : decode b_Hart_execute 174 = .ok (.ireturn, 1) := by decide +kernel
theorem d_Hart_execute_175 : decode b_Hart_execute 175 = .ok (.aload_n 0, 1) := by decide +kernel
theorem d_Hart_execute_176 : decode b_Hart_execute 176 = .ok (.iload_n 1, 1) := by decide +kernel
theorem d_Hart_execute_177 : decode b_Hart_execute 177 = .ok (.invokevirtual 117, 3) := by decide +kernel
theorem d_Hart_execute_180 : decode b_Hart_execute 180 = .ok (.ireturn, 1) := by decide +kernel
theorem d_Hart_execute_181 : decode b_Hart_execute 181 = .ok (.aload_n 0, 1) := by decide +kernel
theorem d_Hart_execute_182 : decode b_Hart_execute 182 = .ok (.iload_n 1, 1) := by decide +kernel
theorem d_Hart_execute_183 : decode b_Hart_execute 183 = .ok (.invokevirtual 120, 3) := by decide +kernel
theorem d_Hart_execute_186 : decode b_Hart_execute 186 = .ok (.ireturn, 1) := by decide +kernel
theorem d_Hart_execute_187 : decode b_Hart_execute 187 = .ok (.aload_n 0, 1) := by decide +kernel
theorem d_Hart_execute_188 : decode b_Hart_execute 188 = .ok (.iload_n 1, 1) := by decide +kernel
theorem d_Hart_execute_189 : decode b_Hart_execute 189 = .ok (.aload_n 0, 1) := by decide +kernel
theorem d_Hart_execute_190 : decode b_Hart_execute 190 = .ok (.getfield 16, 3) := by decide +kernel
theorem d_Hart_execute_193 : decode b_Hart_execute 193 = .ok (.iload_n 1, 1) := by decide +kernel
theorem d_Hart_execute_194 : decode b_Hart_execute 194 = .ok (.invokestatic 123, 3) := by decide +kernel
theorem d_Hart_execute_197 : decode b_Hart_execute 197 = .ok (.iadd, 1) := by decide +kernel
theorem d_Hart_execute_198 : decode b_Hart_execute 198 = .ok (.invokevirtual 126, 3) := by decide +kernel
theorem d_Hart_execute_201 : decode b_Hart_execute 201 = .ok (.ireturn, 1) := by decide +kernel
theorem d_Hart_execute_202 : decode b_Hart_execute 202 = .ok (.iload_n 1, 1) := by decide +kernel
theorem d_Hart_execute_203 : decode b_Hart_execute 203 = .ok (.invokestatic 129, 3) := by decide +kernel
theorem d_Hart_execute_206 : decode b_Hart_execute 206 = .ok (.ifCond .ne 11, 3) := by decide +kernel
theorem d_Hart_execute_209 : decode b_Hart_execute 209 = .ok (.aload_n 0, 1) := by decide +kernel
theorem d_Hart_execute_210 : decode b_Hart_execute 210 = .ok (.iload_n 1, 1) := by decide +kernel
theorem d_Hart_execute_211 : decode b_Hart_execute 211 = .ok (.invokevirtual 132, 3) := by decide +kernel
theorem d_Hart_execute_214 : decode b_Hart_execute 214 = .ok (.goto 9, 3) := by decide +kernel
theorem d_Hart_execute_217 : decode b_Hart_execute 217 = .ok (.aload_n 0, 1) := by decide +kernel
theorem d_Hart_execute_218 : decode b_Hart_execute 218 = .ok (.iload_n 1, 1) := by decide +kernel
theorem d_Hart_execute_219 : decode b_Hart_execute 219 = .ok (.aload_n 2, 1) := by decide +kernel
theorem d_Hart_execute_220 : decode b_Hart_execute 220 = .ok (.invokevirtual 135, 3) := by decide +kernel
theorem d_Hart_execute_223 : decode b_Hart_execute 223 = .ok (.ireturn, 1) := by decide +kernel
theorem d_Hart_execute_224 : decode b_Hart_execute 224 = .ok (.aload_n 0, 1) := by decide +kernel
theorem d_Hart_execute_225 : decode b_Hart_execute 225 = .ok (.iload_n 1, 1) := by decide +kernel
theorem d_Hart_execute_226 : decode b_Hart_execute 226 = .ok (.invokevirtual 138, 3) := by decide +kernel
theorem d_Hart_execute_229 : decode b_Hart_execute 229 = .ok (.ireturn, 1) := by decide +kernel
theorem d_Hart_run_0 : decode b_Hart_run 0 = .ok (.aload_n 0, 1) := by decide +kernel
theorem d_Hart_run_1 : decode b_Hart_run 1 = .ok (.getfield 34, 3) := by decide +kernel
theorem d_Hart_run_4 : decode b_Hart_run 4 = .ok (.aload_n 0, 1) := by decide +kernel
theorem d_Hart_run_5 : decode b_Hart_run 5 = .ok (.getfield 20, 3) := by decide +kernel
theorem d_Hart_run_8 : decode b_Hart_run 8 = .ok (.aload_n 1, 1) := by decide +kernel
theorem d_Hart_run_9 : decode b_Hart_run 9 = .ok (.getfield 41, 3) := by decide +kernel
theorem d_Hart_run_12 : decode b_Hart_run 12 = .ok (.aload_n 0, 1) := by decide +kernel
theorem d_Hart_run_13 : decode b_Hart_run 13 = .ok (.getfield 26, 3) := by decide +kernel
theorem d_Hart_run_16 : decode b_Hart_run 16 = .ok (.invokevirtual 47, 3) := by decide +kernel
theorem d_Hart_run_19 : decode b_Hart_run 19 = .ok (.invokevirtual 53, 3) := by decide +kernel
theorem d_Hart_run_22 : decode b_Hart_run 22 = .ok (.istore_n 2, 1) := by decide +kernel
theorem d_Hart_run_23 : decode b_Hart_run 23 = .ok (.iload_n 2, 1) := by decide +kernel
theorem d_Hart_run_24 : decode b_Hart_run 24 = .ok (.iconst (-1), 1) := by decide +kernel
theorem d_Hart_run_25 : decode b_Hart_run 25 = .ok (.if_icmp .eq 25, 3) := by decide +kernel
theorem d_Hart_run_28 : decode b_Hart_run 28 = .ok (.aload_n 0, 1) := by decide +kernel
theorem d_Hart_run_29 : decode b_Hart_run 29 = .ok (.ldc 15, 2) := by decide +kernel
theorem d_Hart_run_31 : decode b_Hart_run 31 = .ok (.iload_n 2, 1) := by decide +kernel
theorem d_Hart_run_32 : decode b_Hart_run 32 = .ok (.ior, 1) := by decide +kernel
theorem d_Hart_run_33 : decode b_Hart_run 33 = .ok (.iconst 0, 1) := by decide +kernel
theorem d_Hart_run_34 : decode b_Hart_run 34 = .ok (.aload_n 0, 1) := by decide +kernel
theorem d_Hart_run_35 : decode b_Hart_run 35 = .ok (.getfield 34, 3) := by decide +kernel
theorem d_Hart_run_38 : decode b_Hart_run 38 = .ok (.iload_n 2, 1) := by decide +kernel
theorem d_Hart_run_39 : decode b_Hart_run 39 = .ok (.invokevirtual 57, 3) := by decide +kernel
theorem d_Hart_run_42 : decode b_Hart_run 42 = .ok (.invokevirtual 61, 3) := by decide +kernel
theorem d_Hart_run_45 : decode b_Hart_run 45 = .ok (.bipush 64, 2) := by decide +kernel
theorem d_Hart_run_47 : decode b_Hart_run 47 = .ok (.iload_n 2, 1) := by decide +kernel
theorem d_Hart_run_48 : decode b_Hart_run 48 = .ok (.iadd, 1) := by decide +kernel
theorem d_Hart_run_49 : decode b_Hart_run 49 = .ok (.ireturn, 1) := by decide +kernel
theorem d_Hart_run_50 : decode b_Hart_run 50 = .ok (.aload_n 0, 1) := by decide +kernel
theorem d_Hart_run_51 : decode b_Hart_run 51 = .ok (.aload_n 0, 1) := by decide +kernel
theorem d_Hart_run_52 : decode b_Hart_run 52 = .ok (.getfield 16, 3) := by decide +kernel
theorem d_Hart_run_55 : decode b_Hart_run 55 = .ok (.iconst 4, 1) := by decide +kernel
theorem d_Hart_run_56 : decode b_Hart_run 56 = .ok (.getstatic 65, 3) := by decide +kernel
theorem d_Hart_run_59 : decode b_Hart_run 59 = .ok (.aload_n 1, 1) := by decide +kernel
theorem d_Hart_run_60 : decode b_Hart_run 60 = .ok (.invokevirtual 71, 3) := by decide +kernel
theorem d_Hart_run_63 : decode b_Hart_run 63 = .ok (.lstore_n 3, 1) := by decide +kernel
theorem d_Hart_run_64 : decode b_Hart_run 64 = .ok (.lload_n 3, 1) := by decide +kernel
theorem d_Hart_run_65 : decode b_Hart_run 65 = .ok (.lconst 0, 1) := by decide +kernel
theorem d_Hart_run_66 : decode b_Hart_run 66 = .ok (.lcmp, 1) := by decide +kernel
theorem d_Hart_run_67 : decode b_Hart_run 67 = .ok (.ifCond .ge 15, 3) := by decide +kernel
theorem d_Hart_run_70 : decode b_Hart_run 70 = .ok (.aload_n 0, 1) := by decide +kernel
theorem d_Hart_run_71 : decode b_Hart_run 71 = .ok (.lload_n 3, 1) := by decide +kernel
theorem d_Hart_run_72 : decode b_Hart_run 72 = .ok (.aload_n 0, 1) := by decide +kernel
theorem d_Hart_run_73 : decode b_Hart_run 73 = .ok (.getfield 16, 3) := by decide +kernel
theorem d_Hart_run_76 : decode b_Hart_run 76 = .ok (.invokevirtual 75, 3) := by decide +kernel
theorem d_Hart_run_79 : decode b_Hart_run 79 = .ok (.goto 13, 3) := by decide +kernel
theorem d_Hart_run_82 : decode b_Hart_run 82 = .ok (.aload_n 0, 1) := by decide +kernel
theorem d_Hart_run_83 : decode b_Hart_run 83 = .ok (.aload_n 1, 1) := by decide +kernel
theorem d_Hart_run_84 : decode b_Hart_run 84 = .ok (.lload_n 3, 1) := by decide +kernel
theorem d_Hart_run_85 : decode b_Hart_run 85 = .ok (.invokevirtual 79, 3) := by decide +kernel
theorem d_Hart_run_88 : decode b_Hart_run 88 = .ok (.aload_n 1, 1) := by decide +kernel
theorem d_Hart_run_89 : decode b_Hart_run 89 = .ok (.invokevirtual 83, 3) := by decide +kernel
theorem d_Hart_run_92 : decode b_Hart_run 92 = .ok (.istore 5, 2) := by decide +kernel
theorem d_Hart_run_94 : decode b_Hart_run 94 = .ok (.iload 5, 2) := by decide +kernel
theorem d_Hart_run_96 : decode b_Hart_run 96 = .ok (.ifCond .eq 44, 3) := by decide +kernel
theorem d_Hart_run_99 : decode b_Hart_run 99 = .ok (.iload 5, 2) := by decide +kernel
theorem d_Hart_run_101 : decode b_Hart_run 101 = .ok (.iconst 1, 1) := by decide +kernel
theorem d_Hart_run_102 : decode b_Hart_run 102 = .ok (.isub, 1) := by decide +kernel
theorem d_Hart_run_103 : decode b_Hart_run 103 = .ok (.istore 6, 2) := by decide +kernel
theorem d_Hart_run_105 : decode b_Hart_run 105 = .ok (.aload_n 0, 1) := by decide +kernel
theorem d_Hart_run_106 : decode b_Hart_run 106 = .ok (.iload 6, 2) := by decide +kernel
theorem d_Hart_run_108 : decode b_Hart_run 108 = .ok (.aload_n 0, 1) := by decide +kernel
theorem d_Hart_run_109 : decode b_Hart_run 109 = .ok (.getfield 23, 3) := by decide +kernel
theorem d_Hart_run_112 : decode b_Hart_run 112 = .ok (.aload_n 0, 1) := by decide +kernel
theorem d_Hart_run_113 : decode b_Hart_run 113 = .ok (.getfield 20, 3) := by decide +kernel
theorem d_Hart_run_116 : decode b_Hart_run 116 = .ok (.iconst 3, 1) := by decide +kernel
theorem d_Hart_run_117 : decode b_Hart_run 117 = .ok (.if_icmp .ge 19, 3) := by decide +kernel
theorem d_Hart_run_120 : decode b_Hart_run 120 = .ok (.aload_n 0, 1) := by decide +kernel
theorem d_Hart_run_121 : decode b_Hart_run 121 = .ok (.getfield 34, 3) := by decide +kernel
theorem d_Hart_run_124 : decode b_Hart_run 124 = .ok (.iload 6, 2) := by decide +kernel
theorem d_Hart_run_126 : decode b_Hart_run 126 = .ok (.invokevirtual 87, 3) := by decide +kernel
theorem d_Hart_run_129 : decode b_Hart_run 129 = .ok (.ifCond .eq 7, 3) := by decide +kernel
theorem d_Hart_run_132 : decode b_Hart_run 132 = .ok (.iconst 1, 1) := by decide +kernel
theorem d_Hart_run_133 : decode b_Hart_run 133 = .ok (.goto 4, 3) := by decide +kernel
theorem d_Hart_run_136 : decode b_Hart_run 136 = .ok (.iconst 0, 1) := by decide +kernel
theorem d_Hart_run_137 : decode b_Hart_run 137 = .ok (.invokevirtual 61, 3) := by decide +kernel
theorem d_Hart_run_140 : decode b_Hart_run 140 = .ok (.iload 5, 2) := by decide +kernel
theorem d_Hart_run_142 : decode b_Hart_run 142 = .ok (.ireturn, 1) := by decide +kernel
