theorem d_Model_clint_0 : decode b_Model_clint 0 = .ok (.lload_n 0, 1) := by decide +kernel
theorem d_Model_clint_1 : decode b_Model_clint 1 = .ok (.ldc2_w 146, 3) := by decide +kernel
theorem d_Model_clint_4 : decode b_Model_clint 4 = .ok (.lcmp, 1) := by decide +kernel
theorem d_Model_clint_5 : decode b_Model_clint 5 = .ok (.ifCond .ne 5, 3) := by decide +kernel
theorem d_Model_clint_8 : decode b_Model_clint 8 = .ok (.iconst 0, 1) := by decide +kernel
theorem d_Model_clint_9 : decode b_Model_clint 9 = .ok (.ireturn, 1) := by decide +kernel
theorem d_Model_clint_10 : decode b_Model_clint 10 = .ok (.lload_n 0, 1) := by decide +kernel
theorem d_Model_clint_11 : decode b_Model_clint 11 = .ok (.ldc2_w 148, 3) := by decide +kernel
theorem d_Model_clint_14 : decode b_Model_clint 14 = .ok (.lcmp, 1) := by decide +kernel
theorem d_Model_clint_15 : decode b_Model_clint 15 = .ok (.ifCond .ne 5, 3) := by decide +kernel
theorem d_Model_clint_18 : decode b_Model_clint 18 = .ok (.iconst 1, 1) := by decide +kernel
theorem d_Model_clint_19 : decode b_Model_clint 19 = .ok (.ireturn, 1) := by decide +kernel
theorem d_Model_clint_20 : decode b_Model_clint 20 = .ok (.lload_n 0, 1) := by decide +kernel
theorem d_Model_clint_21 : decode b_Model_clint 21 = .ok (.ldc2_w 150, 3) := by decide +kernel
theorem d_Model_clint_24 : decode b_Model_clint 24 = .ok (.lcmp, 1) := by decide +kernel
theorem d_Model_clint_25 : decode b_Model_clint 25 = .ok (.ifCond .lt 32, 3) := by decide +kernel
theorem d_Model_clint_28 : decode b_Model_clint 28 = .ok (.lload_n 0, 1) := by decide +kernel
theorem d_Model_clint_29 : decode b_Model_clint 29 = .ok (.ldc2_w 152, 3) := by decide +kernel
theorem d_Model_clint_32 : decode b_Model_clint 32 = .ok (.lcmp, 1) := by decide +kernel
theorem d_Model_clint_33 : decode b_Model_clint 33 = .ok (.ifCond .gt 24, 3) := by decide +kernel
theorem d_Model_clint_36 : decode b_Model_clint 36 = .ok (.lload_n 0, 1) := by decide +kernel
theorem d_Model_clint_37 : decode b_Model_clint 37 = .ok (.ldc2_w 59, 3) := by decide +kernel
theorem d_Model_clint_40 : decode b_Model_clint 40 = .ok (.lrem, 1) := by decide +kernel
theorem d_Model_clint_41 : decode b_Model_clint 41 = .ok (.lconst 0, 1) := by decide +kernel
theorem d_Model_clint_42 : decode b_Model_clint 42 = .ok (.lcmp, 1) := by decide +kernel
theorem d_Model_clint_43 : decode b_Model_clint 43 = .ok (.ifCond .ne 14, 3) := by decide +kernel
theorem d_Model_clint_46 : decode b_Model_clint 46 = .ok (.iconst 2, 1) := by decide +kernel
theorem d_Model_clint_47 : decode b_Model_clint 47 = .ok (.lload_n 0, 1) := by decide +kernel
theorem d_Model_clint_48 : decode b_Model_clint 48 = .ok (.ldc2_w 150, 3) := by decide +kernel
theorem d_Model_clint_51 : decode b_Model_clint 51 = .ok (.lsub, 1) := by decide +kernel
theorem d_Model_clint_52 : decode b_Model_clint 52 = .ok (.l2i, 1) := by decide +kernel
theorem d_Model_clint_53 : decode b_Model_clint 53 = .ok (.iconst 4, 1) := by decide +kernel
theorem d_Model_clint_54 : decode b_Model_clint 54 = .ok (.idiv, 1) := by decide +kernel
theorem d_Model_clint_55 : decode b_Model_clint 55 = .ok (.iadd, 1) := by decide +kernel
theorem d_Model_clint_56 : decode b_Model_clint 56 = .ok (.ireturn, 1) := by decide +kernel
theorem d_Model_clint_57 : decode b_Model_clint 57 = .ok (.lload_n 0, 1) := by decide +kernel
theorem d_Model_clint_58 : decode b_Model_clint 58 = .ok (.ldc2_w 154, 3) := by decide +kernel
theorem d_Model_clint_61 : decode b_Model_clint 61 = .ok (.lcmp, 1) := by decide +kernel
theorem d_Model_clint_62 : decode b_Model_clint 62 = .ok (.ifCond .ne 8, 3) := by decide +kernel
theorem d_Model_clint_65 : decode b_Model_clint 65 = .ok (.bipush 6, 2) := by decide +kernel
theorem d_Model_clint_67 : decode b_Model_clint 67 = .ok (.goto 17, 3) := by decide +kernel
theorem d_Model_clint_70 : decode b_Model_clint 70 = .ok (.lload_n 0, 1) := by decide +kernel
theorem d_Model_clint_71 : decode b_Model_clint 71 = .ok (.ldc2_w 156, 3) := by decide +kernel
theorem d_Model_clint_74 : decode b_Model_clint 74 = .ok (.lcmp, 1) := by decide +kernel
theorem d_Model_clint_75 : decode b_Model_clint 75 = .ok (.ifCond .ne 8, 3) := by decide +kernel
theorem d_Model_clint_78 : decode b_Model_clint 78 = .ok (.bipush 7, 2) := by decide +kernel
theorem d_Model_clint_80 : decode b_Model_clint 80 = .ok (.goto 4, 3) := by decide +kernel
theorem d_Model_clint_83 : decode b_Model_clint 83 = .ok (.iconst (-1), 1) := by decide +kernel
theorem d_Model_clint_84 : decode b_Model_clint 84 = .ok (.ireturn, 1) := by decide +kernel
theorem d_Model_clintWord_0 : decode b_Model_clintWord 0 = .ok (.iload_n 1, 1) := by decide +kernel
theorem d_Model_clintWord_1 : decode b_Model_clintWord 1 = .ok (.iconst 2, 1) := by decide +kernel
theorem d_Model_clintWord_2 : decode b_Model_clintWord 2 = .ok (.if_icmp .ge 10, 3) := by decide +kernel
theorem d_Model_clintWord_5 : decode b_Model_clintWord 5 = .ok (.aload_n 0, 1) := by decide +kernel
theorem d_Model_clintWord_6 : decode b_Model_clintWord 6 = .ok (.getfield 33, 3) := by decide +kernel
theorem d_Model_clintWord_9 : decode b_Model_clintWord 9 = .ok (.iload_n 1, 1) := by decide +kernel
theorem d_Model_clintWord_10 : decode b_Model_clintWord 10 = .ok (.iaload, 1) := by decide +kernel
theorem d_Model_clintWord_11 : decode b_Model_clintWord 11 = .ok (.ireturn, 1) := by decide +kernel
theorem d_Model_clintWord_12 : decode b_Model_clintWord 12 = .ok (.iload_n 1, 1) := by decide +kernel
theorem d_Model_clintWord_13 : decode b_Model_clintWord 13 = .ok (.iconst 5, 1) := by decide +kernel
theorem d_Model_clintWord_14 : decode b_Model_clintWord 14 = .ok (.if_icmp .le 10, 3) := by decide +kernel
theorem d_Model_clintWord_17 : decode b_Model_clintWord 17 = .ok (.aload_n 0, 1) := by decide +kernel
theorem d_Model_clintWord_18 : decode b_Model_clintWord 18 = .ok (.getfield 49, 3) := by decide +kernel
theorem d_Model_clintWord_21 : decode b_Model_clintWord 21 = .ok (.goto 13, 3) := by decide +kernel
theorem d_Model_clintWord_24 : decode b_Model_clintWord 24 = .ok (.aload_n 0, 1) := by decide +kernel
theorem d_Model_clintWord_25 : decode b_Model_clintWord 25 = .ok (.getfield 29, 3) := by decide +kernel
theorem d_Model_clintWord_28 : decode b_Model_clintWord 28 = .ok (.iload_n 1, 1) := by decide +kernel
theorem d_Model_clintWord_29 : decode b_Model_clintWord 29 = .ok (.iconst 2, 1) := by decide +kernel
theorem d_Model_clintWord_30 : decode b_Model_clintWord 30 = .ok (.isub, 1) := by decide +kernel
theorem d_Model_clintWord_31 : decode b_Model_clintWord 31 = .ok (.iconst 2, 1) := by decide +kernel
theorem d_Model_clintWord_32 : decode b_Model_clintWord 32 = .ok (.idiv, 1) := by decide +kernel
theorem d_Model_clintWord_33 : decode b_Model_clintWord 33 = .ok (.laload, 1) := by decide +kernel
theorem d_Model_clintWord_34 : decode b_Model_clintWord 34 = .ok (.lstore_n 2, 1) := by decide +kernel
theorem d_Model_clintWord_35 : decode b_Model_clintWord 35 = .ok (.iload_n 1, 1) := by decide +kernel
theorem d_Model_clintWord_36 : decode b_Model_clintWord 36 = .ok (.iconst 2, 1) := by decide +kernel
theorem d_Model_clintWord_37 : decode b_Model_clintWord 37 = .ok (.irem, 1) := by decide +kernel
theorem d_Model_clintWord_38 : decode b_Model_clintWord 38 = .ok (.ifCond .ne 7, 3) := by decide +kernel
theorem d_Model_clintWord_41 : decode b_Model_clintWord 41 = .ok (.lload_n 2, 1) := by decide +kernel
theorem d_Model_clintWord_42 : decode b_Model_clintWord 42 = .ok (.goto 7, 3) := by decide +kernel
theorem d_Model_clintWord_45 : decode b_Model_clintWord 45 = .ok (.lload_n 2, 1) := by decide +kernel
theorem d_Model_clintWord_46 : decode b_Model_clintWord 46 = .ok (.bipush 32, 2) := by decide +kernel
theorem d_Model_clintWord_48 : decode b_Model_clintWord 48 = .ok (.lshr, 1) := by decide +kernel
theorem d_Model_clintWord_49 : decode b_Model_clintWord 49 = .ok (.l2i, 1) := by decide +kernel
theorem d_Model_clintWord_50 : decode b_Model_clintWord 50 = .ok (.ireturn, 1) := by decide +kernel
theorem d_Model_setClint_0 : decode b_Model_setClint 0 = .ok (.iload_n 1, 1) := by decide +kernel
theorem d_Model_setClint_1 : decode b_Model_setClint 1 = .ok (.iconst 2, 1) := by decide +kernel
theorem d_Model_setClint_2 : decode b_Model_setClint 2 = .ok (.if_icmp .ge 13, 3) := by decide +kernel
theorem d_Model_setClint_5 : decode b_Model_setClint 5 = .ok (.aload_n 0, 1) := by decide +kernel
theorem d_Model_setClint_6 : decode b_Model_setClint 6 = .ok (.getfield 33, 3) := by decide +kernel
theorem d_Model_setClint_9 : decode b_Model_setClint 9 = .ok (.iload_n 1, 1) := by decide +kernel
theorem d_Model_setClint_10 : decode b_Model_setClint 10 = .ok (.iload_n 2, 1) := by decide +kernel
theorem d_Model_setClint_11 : decode b_Model_setClint 11 = .ok (.iconst 1, 1) := by decide +kernel
theorem d_Model_setClint_12 : decode b_Model_setClint 12 = .ok (.iand, 1) := by decide +kernel
theorem d_Model_setClint_13 : decode b_Model_setClint 13 = .ok (.iastore, 1) := by decide +kernel
theorem d_Model_setClint_14 : decode b_Model_setClint 14 = .ok (.return_, 1) := by decide +kernel
theorem d_Model_setClint_15 : decode b_Model_setClint 15 = .ok (.iload_n 1, 1) := by decide +kernel
theorem d_Model_setClint_16 : decode b_Model_setClint 16 = .ok (.iconst 5, 1) := by decide +kernel
theorem d_Model_setClint_17 : decode b_Model_setClint 17 = .ok (.if_icmp .le 10, 3) := by decide +kernel
theorem d_Model_setClint_20 : decode b_Model_setClint 20 = .ok (.aload_n 0, 1) := by decide +kernel
theorem d_Model_setClint_21 : decode b_Model_setClint 21 = .ok (.getfield 49, 3) := by decide +kernel
theorem d_Model_setClint_24 : decode b_Model_setClint 24 = .ok (.goto 13, 3) := by decide +kernel
theorem d_Model_setClint_27 : decode b_Model_setClint 27 = .ok (.aload_n 0, 1) := by decide +kernel
theorem d_Model_setClint_28 : decode b_Model_setClint 28 = .ok (.getfield 29, 3) := by decide +kernel
theorem d_Model_setClint_31 : decode b_Model_setClint 31 = .ok (.iload_n 1, 1) := by decide +kernel
theorem d_Model_setClint_32 : decode b_Model_setClint 32 = .ok (.iconst 2, 1) := by decide +kernel
theorem d_Model_setClint_33 : decode b_Model_setClint 33 = .ok (.isub, 1) := by decide +kernel
theorem d_Model_setClint_34 : decode b_Model_setClint 34 = .ok (.iconst 2, 1) := by decide +kernel
theorem d_Model_setClint_35 : decode b_Model_setClint 35 = .ok (.idiv, 1) := by decide +kernel
theorem d_Model_setClint_36 : decode b_Model_setClint 36 = .ok (.laload, 1) := by decide +kernel
theorem d_Model_setClint_37 : decode b_Model_setClint 37 = .ok (.lstore_n 3, 1) := by decide +kernel
theorem d_Model_setClint_38 : decode b_Model_setClint 38 = .ok (.iload_n 1, 1) := by decide +kernel
theorem d_Model_setClint_39 : decode b_Model_setClint 39 = .ok (.iconst 2, 1) := by decide +kernel
theorem d_Model_setClint_40 : decode b_Model_setClint 40 = .ok (.irem, 1) := by decide +kernel
theorem d_Model_setClint_41 : decode b_Model_setClint 41 = .ok (.ifCond .ne 18, 3) := by decide +kernel
theorem d_Model_setClint_44 : decode b_Model_setClint 44 = .ok (.lload_n 3, 1) := by decide +kernel
theorem d_Model_setClint_45 : decode b_Model_setClint 45 = .ok (.ldc2_w 158, 3) := by decide +kernel
theorem d_Model_setClint_48 : decode b_Model_setClint 48 = .ok (.land, 1) := by decide +kernel
theorem d_Model_setClint_49 : decode b_Model_setClint 49 = .ok (.iload_n 2, 1) := by decide +kernel
theorem d_Model_setClint_50 : decode b_Model_setClint 50 = .ok (.i2l, 1) := by decide +kernel
theorem d_Model_setClint_51 : decode b_Model_setClint 51 = .ok (.ldc2_w 115, 3) := by decide +kernel
theorem d_Model_setClint_54 : decode b_Model_setClint 54 = .ok (.land, 1) := by decide +kernel
theorem d_Model_setClint_55 : decode b_Model_setClint 55 = .ok (.lor, 1) := by decide +kernel
theorem d_Model_setClint_56 : decode b_Model_setClint 56 = .ok (.goto 14, 3) := by decide +kernel
theorem d_Model_setClint_59 : decode b_Model_setClint 59 = .ok (.lload_n 3, 1) := by decide +kernel
theorem d_Model_setClint_60 : decode b_Model_setClint 60 = .ok (.ldc2_w 115, 3) := by decide +kernel
theorem d_Model_setClint_63 : decode b_Model_setClint 63 = .ok (.land, 1) := by decide +kernel
theorem d_Model_setClint_64 : decode b_Model_setClint 64 = .ok (.iload_n 2, 1) := by decide +kernel
theorem d_Model_setClint_65 : decode b_Model_setClint 65 = .ok (.i2l, 1) := by decide +kernel
theorem d_Model_setClint_66 : decode b_Model_setClint 66 = .ok (.bipush 32, 2) := by decide +kernel
theorem d_Model_setClint_68 : decode b_Model_setClint 68 = .ok (.lshl, 1) := by decide +kernel
theorem d_Model_setClint_69 : decode b_Model_setClint 69 = .ok (.lor, 1) := by decide +kernel
theorem d_Model_setClint_70 : decode b_Model_setClint 70 = .ok (.lstore 5, 2) := by decide +kernel
theorem d_Model_setClint_72 : decode b_Model_setClint 72 = .ok (.iload_n 1, 1) := by decide +kernel
theorem d_Model_setClint_73 : decode b_Model_setClint 73 = .ok (.iconst 5, 1) := by decide +kernel
theorem d_Model_setClint_74 : decode b_Model_setClint 74 = .ok (.if_icmp .le 12, 3) := by decide +kernel
theorem d_Model_setClint_77 : decode b_Model_setClint 77 = .ok (.aload_n 0, 1) := by decide +kernel
theorem d_Model_setClint_78 : decode b_Model_setClint 78 = .ok (.lload 5, 2) := by decide +kernel
theorem d_Model_setClint_80 : decode b_Model_setClint 80 = .ok (.putfield 49, 3) := by decide +kernel
theorem d_Model_setClint_83 : decode b_Model_setClint 83 = .ok (.goto 15, 3) := by decide +kernel
theorem d_Model_setClint_86 : decode b_Model_setClint 86 = .ok (.aload_n 0, 1) := by decide +kernel
theorem d_Model_setClint_87 : decode b_Model_setClint 87 = .ok (.getfield 29, 3) := by decide +kernel
theorem d_Model_setClint_90 : decode b_Model_setClint 90 = .ok (.iload_n 1, 1) := by decide +kernel
theorem d_Model_setClint_91 : decode b_Model_setClint 91 = .ok (.iconst 2, 1) := by decide +kernel
theorem d_Model_setClint_92 : decode b_Model_setClint 92 = .ok (.isub, 1) := by decide +kernel
theorem d_Model_setClint_93 : decode b_Model_setClint 93 = .ok (.iconst 2, 1) := by decide +kernel
theorem d_Model_setClint_94 : decode b_Model_setClint 94 = .ok (.idiv, 1) := by decide +kernel
theorem d_Model_setClint_95 : decode b_Model_setClint 95 = .ok (.lload 5, 2) := by decide +kernel
theorem d_Model_setClint_97 : decode b_Model_setClint 97 = .ok (.lastore, 1) := by decide +kernel
theorem d_Model_setClint_98 : decode b_Model_setClint 98 = .ok (.return_, 1) := by decide +kernel
theorem d_Model_place_0 : decode b_Model_place 0 = .ok (.iload_n 1, 1) := by decide +kernel
theorem d_Model_place_1 : decode b_Model_place 1 = .ok (.iload_n 2, 1) := by decide +kernel
theorem d_Model_place_2 : decode b_Model_place 2 = .ok (.iconst 1, 1) := by decide +kernel
theorem d_Model_place_3 : decode b_Model_place 3 = .ok (.isub, 1) := by decide +kernel
theorem d_Model_place_4 : decode b_Model_place 4 = .ok (.iand, 1) := by decide +kernel
theorem d_Model_place_5 : decode b_Model_place 5 = .ok (.ifCond .eq 23, 3) := by decide +kernel
theorem d_Model_place_8 : decode b_Model_place 8 = .ok (.aload_n 0, 1) := by decide +kernel
theorem d_Model_place_9 : decode b_Model_place 9 = .ok (.iload_n 3, 1) := by decide +kernel
theorem d_Model_place_10 : decode b_Model_place 10 = .ok (.iconst 1, 1) := by decide +kernel
theorem d_Model_place_11 : decode b_Model_place 11 = .ok (.if_icmp .ne 7, 3) := by decide +kernel
theorem d_Model_place_14 : decode b_Model_place 14 = .ok (.iconst 4, 1) := by decide +kernel
theorem d_Model_place_15 : decode b_Model_place 15 = .ok (.goto 5, 3) := by decide +kernel
theorem d_Model_place_18 : decode b_Model_place 18 = .ok (.bipush 6, 2) := by decide +kernel
theorem d_Model_place_20 : decode b_Model_place 20 = .ok (.iload_n 1, 1) := by decide +kernel
theorem d_Model_place_21 : decode b_Model_place 21 = .ok (.invokevirtual 127, 3) := by decide +kernel
theorem d_Model_place_24 : decode b_Model_place 24 = .ok (.ldc2_w 47, 3) := by decide +kernel
theorem d_Model_place_27 : decode b_Model_place 27 = .ok (.lreturn, 1) := by decide +kernel
theorem d_Model_place_28 : decode b_Model_place 28 = .ok (.aload_n 0, 1) := by decide +kernel
theorem d_Model_place_29 : decode b_Model_place 29 = .ok (.iload_n 1, 1) := by decide +kernel
theorem d_Model_place_30 : decode b_Model_place 30 = .ok (.iload_n 3, 1) := by decide +kernel
theorem d_Model_place_31 : decode b_Model_place 31 = .ok (.invokevirtual 160, 3) := by decide +kernel
theorem d_Model_place_34 : decode b_Model_place 34 = .ok (.lreturn, 1) := by decide +kernel
theorem d_Model_load_0 : decode b_Model_load 0 = .ok (.aload_n 0, 1) := by decide +kernel
theorem d_Model_load_1 : decode b_Model_load 1 = .ok (.iload_n 1, 1) := by decide +kernel
theorem d_Model_load_2 : decode b_Model_load 2 = .ok (.iload_n 2, 1) := by decide +kernel
theorem d_Model_load_3 : decode b_Model_load 3 = .ok (.iconst 1, 1) := by decide +kernel
theorem d_Model_load_4 : decode b_Model_load 4 = .ok (.invokevirtual 164, 3) := by decide +kernel
theorem d_Model_load_7 : decode b_Model_load 7 = .ok (.lstore_n 3, 1) := by decide +kernel
theorem d_Model_load_8 : decode b_Model_load 8 = .ok (.lload_n 3, 1) := by decide +kernel
theorem d_Model_load_9 : decode b_Model_load 9 = .ok (.lconst 0, 1) := by decide +kernel
theorem d_Model_load_10 : decode b_Model_load 10 = .ok (.lcmp, 1) := by decide +kernel
theorem d_Model_load_11 : decode b_Model_load 11 = .ok (.ifCond .ge 5, 3) := by decide +kernel
theorem d_Model_load_14 : decode b_Model_load 14 = .ok (.iconst 0, 1) := by decide +kernel
theorem d_Model_load_15 : decode b_Model_load 15 = .ok (.ireturn, 1) := by decide +kernel
theorem d_Model_load_16 : decode b_Model_load 16 = .ok (.aload_n 0, 1) := by decide +kernel
theorem d_Model_load_17 : decode b_Model_load 17 = .ok (.lload_n 3, 1) := by decide +kernel
theorem d_Model_load_18 : decode b_Model_load 18 = .ok (.invokevirtual 120, 3) := by decide +kernel
theorem d_Model_load_21 : decode b_Model_load 21 = .ok (.istore 5, 2) := by decide +kernel
theorem d_Model_load_23 : decode b_Model_load 23 = .ok (.iload 5, 2) := by decide +kernel
theorem d_Model_load_25 : decode b_Model_load 25 = .ok (.ifCond .lt 42, 3) := by decide +kernel
theorem d_Model_load_28 : decode b_Model_load 28 = .ok (.iconst 0, 1) := by decide +kernel
theorem d_Model_load_29 : decode b_Model_load 29 = .ok (.istore 6, 2) := by decide +kernel
theorem d_Model_load_31 : decode b_Model_load 31 = .ok (.iload_n 2, 1) := by decide +kernel
theorem d_Model_load_32 : decode b_Model_load 32 = .ok (.iconst 1, 1) := by decide +kernel
theorem d_Model_load_33 : decode b_Model_load 33 = .ok (.isub, 1) := by decide +kernel
theorem d_Model_load_34 : decode b_Model_load 34 = .ok (.istore 7, 2) := by decide +kernel
theorem d_Model_load_36 : decode b_Model_load 36 = .ok (.iload 7, 2) := by decide +kernel
theorem d_Model_load_38 : decode b_Model_load 38 = .ok (.ifCond .lt 26, 3) := by decide +kernel
theorem d_Model_load_41 : decode b_Model_load 41 = .ok (.iload 6, 2) := by decide +kernel
theorem d_Model_load_43 : decode b_Model_load 43 = .ok (.bipush 8, 2) := by decide +kernel
theorem d_Model_load_45 : decode b_Model_load 45 = .ok (.ishl, 1) := by decide +kernel
theorem d_Model_load_46 : decode b_Model_load 46 = .ok (.aload_n 0, 1) := by decide +kernel
theorem d_Model_load_47 : decode b_Model_load 47 = .ok (.iload 5, 2) := by decide +kernel
theorem d_Model_load_49 : decode b_Model_load 49 = .ok (.iload 7, 2) := by decide +kernel
theorem d_Model_load_51 : decode b_Model_load 51 = .ok (.iadd, 1) := by decide +kernel
theorem d_Model_load_52 : decode b_Model_load 52 = .ok (.invokevirtual 53, 3) := by decide +kernel
theorem d_Model_load_55 : decode b_Model_load 55 = .ok (.ior, 1) := by decide +kernel
theorem d_Model_load_56 : decode b_Model_load 56 = .ok (.istore 6, 2) := by decide +kernel
theorem d_Model_load_58 : decode b_Model_load 58 = .ok (.iinc 7 (-1), 3) := by decide +kernel
theorem d_Model_load_61 : decode b_Model_load 61 = .ok (.goto (-25), 3) := by decide +kernel
theorem d_Model_load_64 : decode b_Model_load 64 = .ok (.iload 6, 2) := by decide +kernel
theorem d_Model_load_66 : decode b_Model_load 66 = .ok (.ireturn, 1) := by decide +kernel
theorem d_Model_load_67 : decode b_Model_load 67 = .ok (.iload_n 2, 1) := by decide +kernel
theorem d_Model_load_68 : decode b_Model_load 68 = .ok (.iconst 4, 1) := by decide +kernel
theorem d_Model_load_69 : decode b_Model_load 69 = .ok (.if_icmp .ne 10, 3) := by decide +kernel
theorem d_Model_load_72 : decode b_Model_load 72 = .ok (.lload_n 3, 1) := by decide +kernel
theorem d_Model_load_73 : decode b_Model_load 73 = .ok (.invokestatic 168, 3) := by decide +kernel
theorem d_Model_load_76 : decode b_Model_load 76 = .ok (.goto 4, 3) := by decide +kernel
theorem d_Model_load_79 : decode b_Model_load 79 = .ok (.iconst (-1), 1) := by decide +kernel
theorem d_Model_load_80 : decode b_Model_load 80 = .ok (.istore 6, 2) := by decide +kernel
theorem d_Model_load_82 : decode b_Model_load 82 = .ok (.iload 6, 2) := by decide +kernel
theorem d_Model_load_84 : decode b_Model_load 84 = .ok (.ifCond .ge 9, 3) := by decide +kernel
theorem d_Model_load_87 : decode b_Model_load 87 = .ok (.aload_n 0, 1) := by decide +kernel
theorem d_Model_load_88 : decode b_Model_load 88 = .ok (.iconst 5, 1) := by decide +kernel
theorem d_Model_load_89 : decode b_Model_load 89 = .ok (.iload_n 1, 1) := by decide +kernel
theorem d_Model_load_90 : decode b_Model_load 90 = .ok (.invokevirtual 127, 3) := by decide +kernel
theorem d_Model_load_93 : decode b_Model_load 93 = .ok (.iload 6, 2) := by decide +kernel
theorem d_Model_load_95 : decode b_Model_load 95 = .ok (.ifCond .ge 7, 3) := by decide +kernel
theorem d_Model_load_98 : decode b_Model_load 98 = .ok (.iconst 0, 1) := by decide +kernel
theorem d_Model_load_99 : decode b_Model_load 99 = .ok (.goto 9, 3) := by decide +kernel
theorem d_Model_load_102 : decode b_Model_load 102 = .ok (.aload_n 0, 1) := by decide +kernel
theorem d_Model_load_103 : decode b_Model_load 103 = .ok (.iload 6, 2) := by decide +kernel
theorem d_Model_load_105 : decode b_Model_load 105 = .ok (.invokevirtual 171, 3) := by decide +kernel
theorem d_Model_load_108 : decode b_Model_load 108 = .ok (.ireturn, 1) := by decide +kernel
theorem d_Model_store_0 : decode b_Model_store 0 = .ok (.aload_n 0, 1) := by decide +kernel
theorem d_Model_store_1 : decode b_Model_store 1 = .ok (.iload_n 1, 1) := by decide +kernel
theorem d_Model_store_2 : decode b_Model_store 2 = .ok (.iload_n 2, 1) := by decide +kernel
theorem d_Model_store_3 : decode b_Model_store 3 = .ok (.iconst 2, 1) := by decide +kernel
theorem d_Model_store_4 : decode b_Model_store 4 = .ok (.invokevirtual 164, 3) := by decide +kernel
theorem d_Model_store_7 : decode b_Model_store 7 = .ok (.lstore 4, 2) := by decide +kernel
theorem d_Model_store_9 : decode b_Model_store 9 = .ok (.lload 4, 2) := by decide +kernel
theorem d_Model_store_11 : decode b_Model_store 11 = .ok (.lconst 0, 1) := by decide +kernel
theorem d_Model_store_12 : decode b_Model_store 12 = .ok (.lcmp, 1) := by decide +kernel
theorem d_Model_store_13 : decode b_Model_store 13 = .ok (.ifCond .ge 4, 3) := by decide +kernel
theorem d_Model_store_16 : decode b_Model_store 16 = .ok (.return_, 1) := by decide +kernel
theorem d_Model_store_17 : decode b_Model_store 17 = .ok (.aload_n 0, 1) := by decide +kernel
theorem d_Model_store_18 : decode b_Model_store 18 = .ok (.lload 4, 2) := by decide +kernel
theorem d_Model_store_20 : decode b_Model_store 20 = .ok (.invokevirtual 120, 3) := by decide +kernel
theorem d_Model_store_23 : decode b_Model_store 23 = .ok (.istore 6, 2) := by decide +kernel
theorem d_Model_store_25 : decode b_Model_store 25 = .ok (.iload 6, 2) := by decide +kernel
theorem d_Model_store_27 : decode b_Model_store 27 = .ok (.ifCond .lt 26, 3) := by decide +kernel
theorem d_Model_store_30 : decode b_Model_store 30 = .ok (.aload_n 0, 1) := by decide +kernel
theorem d_Model_store_31 : decode b_Model_store 31 = .ok (.iload 6, 2) := by decide +kernel
theorem d_Model_store_33 : decode b_Model_store 33 = .ok (.iload_n 2, 1) := by decide +kernel
theorem d_Model_store_34 : decode b_Model_store 34 = .ok (.iload_n 3, 1) := by decide +kernel
theorem d_Model_store_35 : decode b_Model_store 35 = .ok (.invokevirtual 61, 3) := by decide +kernel
theorem d_Model_store_38 : decode b_Model_store 38 = .ok (.aload_n 0, 1) := by decide +kernel
theorem d_Model_store_39 : decode b_Model_store 39 = .ok (.getfield 26, 3) := by decide +kernel
theorem d_Model_store_42 : decode b_Model_store 42 = .ok (.iconst 0, 1) := by decide +kernel
theorem d_Model_store_43 : decode b_Model_store 43 = .ok (.iconst (-1), 1) := by decide +kernel
theorem d_Model_store_44 : decode b_Model_store 44 = .ok (.iastore, 1) := by decide +kernel
theorem d_Model_store_45 : decode b_Model_store 45 = .ok (.aload_n 0, 1) := by decide +kernel
theorem d_Model_store_46 : decode b_Model_store 46 = .ok (.getfield 26, 3) := by decide +kernel
theorem d_Model_store_49 : decode b_Model_store 49 = .ok (.iconst 1, 1) := by decide +kernel
theorem d_Model_store_50 : decode b_Model_store 50 = .ok (.iconst (-1), 1) := by decide +kernel
theorem d_Model_store_51 : decode b_Model_store 51 = .ok (.iastore, 1) := by decide +kernel
theorem d_Model_store_52 : decode b_Model_store 52 = .ok (.return_, 1) := by decide +kernel
theorem d_Model_store_53 : decode b_Model_store 53 = .ok (.iload_n 2, 1) := by decide +kernel
theorem d_Model_store_54 : decode b_Model_store 54 = .ok (.iconst 4, 1) := by decide +kernel
theorem d_Model_store_55 : decode b_Model_store 55 = .ok (.if_icmp .ne 11, 3) := by decide +kernel
theorem d_Model_store_58 : decode b_Model_store 58 = .ok (.lload 4, 2) := by decide +kernel
theorem d_Model_store_60 : decode b_Model_store 60 = .ok (.invokestatic 168, 3) := by decide +kernel
theorem d_Model_store_63 : decode b_Model_store 63 = .ok (.goto 4, 3) := by decide +kernel
theorem d_Model_store_66 : decode b_Model_store 66 = .ok (.iconst (-1), 1) := by decide +kernel
theorem d_Model_store_67 : decode b_Model_store 67 = .ok (.istore 7, 2) := by decide +kernel
theorem d_Model_store_69 : decode b_Model_store 69 = .ok (.iload 7, 2) := by decide +kernel
theorem d_Model_store_71 : decode b_Model_store 71 = .ok (.ifCond .lt 13, 3) := by decide +kernel
theorem d_Model_store_74 : decode b_Model_store 74 = .ok (.aload_n 0, 1) := by decide +kernel
theorem d_Model_store_75 : decode b_Model_store 75 = .ok (.iload 7, 2) := by decide +kernel
theorem d_Model_store_77 : decode b_Model_store 77 = .ok (.iload_n 3, 1) := by decide +kernel
theorem d_Model_store_78 : decode b_Model_store 78 = .ok (.invokevirtual 174, 3) := by decide +kernel
theorem d_Model_store_81 : decode b_Model_store 81 = .ok (.goto 61, 3) := by decide +kernel
theorem d_Model_store_84 : decode b_Model_store 84 = .ok (.iload_n 2, 1) := by decide +kernel
theorem d_Model_store_85 : decode b_Model_store 85 = .ok (.iconst 1, 1) := by decide +kernel
theorem d_Model_store_86 : decode b_Model_store 86 = .ok (.if_icmp .ne 49, 3) := by decide +kernel
theorem d_Model_store_89 : decode b_Model_store 89 = .ok (.lload 4, 2) := by decide +kernel
theorem d_Model_store_91 : decode b_Model_store 91 = .ok (.ldc2_w 177, 3) := by decide +kernel
theorem d_Model_store_94 : decode b_Model_store 94 = .ok (.lcmp, 1) := by decide +kernel
theorem d_Model_store_95 : decode b_Model_store 95 = .ok (.ifCond .ne 40, 3) := by decide +kernel
theorem d_Model_store_98 : decode b_Model_store 98 = .ok (.aload_n 0, 1) := by decide +kernel
theorem d_Model_store_99 : decode b_Model_store 99 = .ok (.getfield 179, 3) := by decide +kernel
theorem d_Model_store_102 : decode b_Model_store 102 = .ok (.sipush 256, 3) := by decide +kernel
theorem d_Model_store_105 : decode b_Model_store 105 = .ok (.if_icmp .ge 37, 3) := by decide +kernel
theorem d_Model_store_108 : decode b_Model_store 108 = .ok (.aload_n 0, 1) := by decide +kernel
theorem d_Model_store_109 : decode b_Model_store 109 = .ok (.getfield 36, 3) := by decide +kernel
theorem d_Model_store_112 : decode b_Model_store 112 = .ok (.aload_n 0, 1) := by decide +kernel
theorem d_Model_store_113 : decode b_Model_store 113 = .ok (.getfield 179, 3) := by decide +kernel
theorem d_Model_store_116 : decode b_Model_store 116 = .ok (.iload_n 3, 1) := by decide +kernel
theorem d_Model_store_117 : decode b_Model_store 117 = .ok (.sipush 255, 3) := by decide +kernel
theorem d_Model_store_120 : decode b_Model_store 120 = .ok (.iand, 1) := by decide +kernel
theorem d_Model_store_121 : decode b_Model_store 121 = .ok (.iastore, 1) := by decide +kernel
theorem d_Model_store_122 : decode b_Model_store 122 = .ok (.aload_n 0, 1) := by decide +kernel
theorem d_Model_store_123 : decode b_Model_store 123 = .ok (.dup, 1) := by decide +kernel
theorem d_Model_store_124 : decode b_Model_store 124 = .ok (.getfield 179, 3) := by decide +kernel
theorem d_Model_store_127 : decode b_Model_store 127 = .ok (.iconst 1, 1) := by decide +kernel
theorem d_Model_store_128 : decode b_Model_store 128 = .ok (.iadd, 1) := by decide +kernel
theorem d_Model_store_129 : decode b_Model_store 129 = .ok (.putfield 179, 3) := by decide +kernel
theorem d_Model_store_132 : decode b_Model_store 132 = .ok (.goto 10, 3) := by decide +kernel
theorem d_Model_store_135 : decode b_Model_store 135 = .ok (.aload_n 0, 1) := by decide +kernel
theorem d_Model_store_136 : decode b_Model_store 136 = .ok (.bipush 7, 2) := by decide +kernel
theorem d_Model_store_138 : decode b_Model_store 138 = .ok (.iload_n 1, 1) := by decide +kernel
theorem d_Model_store_139 : decode b_Model_store 139 = .ok (.invokevirtual 127, 3) := by decide +kernel
theorem d_Model_store_142 : decode b_Model_store 142 = .ok (.return_, 1) := by decide +kernel
theorem d_Model_claimed_0 : decode b_Model_claimed 0 = .ok (.aload_n 0, 1) := by decide +kernel
theorem d_Model_claimed_1 : decode b_Model_claimed 1 = .ok (.iload_n 1, 1) := by decide +kernel
theorem d_Model_claimed_2 : decode b_Model_claimed 2 = .ok (.iconst 4, 1) := by decide +kernel
theorem d_Model_claimed_3 : decode b_Model_claimed 3 = .ok (.iload_n 2, 1) := by decide +kernel
theorem d_Model_claimed_4 : decode b_Model_claimed 4 = .ok (.invokevirtual 164, 3) := by decide +kernel
theorem d_Model_claimed_7 : decode b_Model_claimed 7 = .ok (.lstore_n 3, 1) := by decide +kernel
theorem d_Model_claimed_8 : decode b_Model_claimed 8 = .ok (.lload_n 3, 1) := by decide +kernel
theorem d_Model_claimed_9 : decode b_Model_claimed 9 = .ok (.lconst 0, 1) := by decide +kernel
theorem d_Model_claimed_10 : decode b_Model_claimed 10 = .ok (.lcmp, 1) := by decide +kernel
theorem d_Model_claimed_11 : decode b_Model_claimed 11 = .ok (.ifCond .ge 5, 3) := by decide +kernel
theorem d_Model_claimed_14 : decode b_Model_claimed 14 = .ok (.iconst (-1), 1) := by decide +kernel
theorem d_Model_claimed_15 : decode b_Model_claimed 15 = .ok (.ireturn, 1) := by decide +kernel
theorem d_Model_claimed_16 : decode b_Model_claimed 16 = .ok (.aload_n 0, 1) := by decide +kernel
theorem d_Model_claimed_17 : decode b_Model_claimed 17 = .ok (.lload_n 3, 1) := by decide +kernel
theorem d_Model_claimed_18 : decode b_Model_claimed 18 = .ok (.invokevirtual 120, 3) := by decide +kernel
theorem d_Model_claimed_21 : decode b_Model_claimed 21 = .ok (.istore 5, 2) := by decide +kernel
theorem d_Model_claimed_23 : decode b_Model_claimed 23 = .ok (.iload 5, 2) := by decide +kernel
theorem d_Model_claimed_25 : decode b_Model_claimed 25 = .ok (.ifCond .ge 12, 3) := by decide +kernel
theorem d_Model_claimed_28 : decode b_Model_claimed 28 = .ok (.aload_n 0, 1) := by decide +kernel
theorem d_Model_claimed_29 : decode b_Model_claimed 29 = .ok (.iload_n 2, 1) := by decide +kernel
theorem d_Model_claimed_30 : decode b_Model_claimed 30 = .ok (.invokestatic 124, 3) := by decide +kernel
theorem d_Model_claimed_33 : decode b_Model_claimed 33 = .ok (.iload_n 1, 1) := by decide +kernel
theorem d_Model_claimed_34 : decode b_Model_claimed 34 = .ok (.invokevirtual 127, 3) := by decide +kernel
theorem d_Model_claimed_37 : decode b_Model_claimed 37 = .ok (.iload 5, 2) := by decide +kernel
theorem d_Model_claimed_39 : decode b_Model_claimed 39 = .ok (.ireturn, 1) := by decide +kernel
theorem d_Model_reg_0 : decode b_Model_reg 0 = .ok (.aload_n 0, 1) := by decide +kernel
theorem d_Model_reg_1 : decode b_Model_reg 1 = .ok (.getfield 13, 3) := by decide +kernel
theorem d_Model_reg_4 : decode b_Model_reg 4 = .ok (.bipush 32, 2) := by decide +kernel
theorem d_Model_reg_6 : decode b_Model_reg 6 = .ok (.aload_n 0, 1) := by decide +kernel
theorem d_Model_reg_7 : decode b_Model_reg 7 = .ok (.getfield 87, 3) := by decide +kernel
theorem d_Model_reg_10 : decode b_Model_reg 10 = .ok (.imul, 1) := by decide +kernel
theorem d_Model_reg_11 : decode b_Model_reg 11 = .ok (.iload_n 1, 1) := by decide +kernel
theorem d_Model_reg_12 : decode b_Model_reg 12 = .ok (.iadd, 1) := by decide +kernel
theorem d_Model_reg_13 : decode b_Model_reg 13 = .ok (.iaload, 1) := by decide +kernel
theorem d_Model_reg_14 : decode b_Model_reg 14 = .ok (.ireturn, 1) := by decide +kernel
theorem d_Model_setReg_0 : decode b_Model_setReg 0 = .ok (.iload_n 1, 1) := by decide +kernel
theorem d_Model_setReg_1 : decode b_Model_setReg 1 = .ok (.ifCond .le 26, 3) := by decide +kernel
theorem d_Model_setReg_4 : decode b_Model_setReg 4 = .ok (.aload_n 0, 1) := by decide +kernel
theorem d_Model_setReg_5 : decode b_Model_setReg 5 = .ok (.getfield 90, 3) := by decide +kernel
theorem d_Model_setReg_8 : decode b_Model_setReg 8 = .ok (.iconst (-1), 1) := by decide +kernel
theorem d_Model_setReg_9 : decode b_Model_setReg 9 = .ok (.if_icmp .ne 18, 3) := by decide +kernel
theorem d_Model_setReg_12 : decode b_Model_setReg 12 = .ok (.aload_n 0, 1) := by decide +kernel
theorem d_Model_setReg_13 : decode b_Model_setReg 13 = .ok (.getfield 13, 3) := by decide +kernel
theorem d_Model_setReg_16 : decode b_Model_setReg 16 = .ok (.bipush 32, 2) := by decide +kernel
theorem d_Model_setReg_18 : decode b_Model_setReg 18 = .ok (.aload_n 0, 1) := by decide +kernel
theorem d_Model_setReg_19 : decode b_Model_setReg 19 = .ok (.getfield 87, 3) := by decide +kernel
theorem d_Model_setReg_22 : decode b_Model_setReg 22 = .ok (.imul, 1) := by decide +kernel
theorem d_Model_setReg_23 : decode b_Model_setReg 23 = .ok (.iload_n 1, 1) := by decide +kernel
theorem d_Model_setReg_24 : decode b_Model_setReg 24 = .ok (.iadd, 1) := by decide +kernel
theorem d_Model_setReg_25 : decode b_Model_setReg 25 = .ok (.iload_n 2, 1) := by decide +kernel
theorem d_Model_setReg_26 : decode b_Model_setReg 26 = .ok (.iastore, 1) := by decide +kernel
theorem d_Model_setReg_27 : decode b_Model_setReg 27 = .ok (.return_, 1) := by decide +kernel
theorem d_Model_field_0 : decode b_Model_field 0 = .ok (.iload_n 0, 1) := by decide +kernel
theorem d_Model_field_1 : decode b_Model_field 1 = .ok (.iload_n 1, 1) := by decide +kernel
theorem d_Model_field_2 : decode b_Model_field 2 = .ok (.iushr, 1) := by decide +kernel
theorem d_Model_field_3 : decode b_Model_field 3 = .ok (.iconst 1, 1) := by decide +kernel
theorem d_Model_field_4 : decode b_Model_field 4 = .ok (.iload_n 2, 1) := by decide +kernel
theorem d_Model_field_5 : decode b_Model_field 5 = .ok (.ishl, 1) := by decide +kernel
theorem d_Model_field_6 : decode b_Model_field 6 = .ok (.iconst 1, 1) := by decide +kernel
theorem d_Model_field_7 : decode b_Model_field 7 = .ok (.isub, 1) := by decide +kernel
theorem d_Model_field_8 : decode b_Model_field 8 = .ok (.iand, 1) := by decide +kernel
theorem d_Model_field_9 : decode b_Model_field 9 = .ok (.ireturn, 1) := by decide +kernel
theorem d_Model_go_0 : decode b_Model_go 0 = .ok (.iload_n 1, 1) := by decide +kernel
theorem d_Model_go_1 : decode b_Model_go 1 = .ok (.iconst 3, 1) := by decide +kernel
theorem d_Model_go_2 : decode b_Model_go 2 = .ok (.iand, 1) := by decide +kernel
theorem d_Model_go_3 : decode b_Model_go 3 = .ok (.ifCond .eq 9, 3) := by decide +kernel
theorem d_Model_go_6 : decode b_Model_go 6 = .ok (.aload_n 0, 1) := by decide +kernel
theorem d_Model_go_7 : decode b_Model_go 7 = .ok (.iconst 0, 1) := by decide +kernel
theorem d_Model_go_8 : decode b_Model_go 8 = .ok (.iload_n 1, 1) := by decide +kernel
theorem d_Model_go_9 : decode b_Model_go 9 = .ok (.invokevirtual 127, 3) := by decide +kernel
theorem d_Model_go_12 : decode b_Model_go 12 = .ok (.aload_n 0, 1) := by decide +kernel
theorem d_Model_go_13 : decode b_Model_go 13 = .ok (.iload_n 1, 1) := by decide +kernel
theorem d_Model_go_14 : decode b_Model_go 14 = .ok (.putfield 182, 3) := by decide +kernel
theorem d_Model_go_17 : decode b_Model_go 17 = .ok (.return_, 1) := by decide +kernel
theorem d_Model_below_0 : decode b_Model_below 0 = .ok (.iload_n 0, 1) := by decide +kernel
theorem d_Model_below_1 : decode b_Model_below 1 = .ok (.ldc 46, 2) := by decide +kernel
theorem d_Model_below_3 : decode b_Model_below 3 = .ok (.ixor, 1) := by decide +kernel
theorem d_Model_below_4 : decode b_Model_below 4 = .ok (.iload_n 1, 1) := by decide +kernel
theorem d_Model_below_5 : decode b_Model_below 5 = .ok (.ldc 46, 2) := by decide +kernel
theorem d_Model_below_7 : decode b_Model_below 7 = .ok (.ixor, 1) := by decide +kernel
theorem d_Model_below_8 : decode b_Model_below 8 = .ok (.if_icmp .ge 7, 3) := by decide +kernel
theorem d_Model_below_11 : decode b_Model_below 11 = .ok (.iconst 1, 1) := by decide +kernel
theorem d_Model_below_12 : decode b_Model_below 12 = .ok (.goto 4, 3) := by decide +kernel
theorem d_Model_below_15 : decode b_Model_below 15 = .ok (.iconst 0, 1) := by decide +kernel
theorem d_Model_below_16 : decode b_Model_below 16 = .ok (.ireturn, 1) := by decide +kernel
theorem d_Model_jump_0 : decode b_Model_jump 0 = .ok (.aload_n 0, 1) := by decide +kernel
theorem d_Model_jump_1 : decode b_Model_jump 1 = .ok (.getfield 17, 3) := by decide +kernel
theorem d_Model_jump_4 : decode b_Model_jump 4 = .ok (.aload_n 0, 1) := by decide +kernel
theorem d_Model_jump_5 : decode b_Model_jump 5 = .ok (.getfield 87, 3) := by decide +kernel
theorem d_Model_jump_8 : decode b_Model_jump 8 = .ok (.iaload, 1) := by decide +kernel
theorem d_Model_jump_9 : decode b_Model_jump 9 = .ok (.iload_n 1, 1) := by decide +kernel
theorem d_Model_jump_10 : decode b_Model_jump 10 = .ok (.bipush 31, 2) := by decide +kernel
theorem d_Model_jump_12 : decode b_Model_jump 12 = .ok (.ishr, 1) := by decide +kernel
theorem d_Model_jump_13 : decode b_Model_jump 13 = .ok (.bipush 20, 2) := by decide +kernel
theorem d_Model_jump_15 : decode b_Model_jump 15 = .ok (.ishl, 1) := by decide +kernel
theorem d_Model_jump_16 : decode b_Model_jump 16 = .ok (.iload_n 1, 1) := by decide +kernel
theorem d_Model_jump_17 : decode b_Model_jump 17 = .ok (.bipush 12, 2) := by decide +kernel
theorem d_Model_jump_19 : decode b_Model_jump 19 = .ok (.bipush 8, 2) := by decide +kernel
theorem d_Model_jump_21 : decode b_Model_jump 21 = .ok (.invokestatic 185, 3) := by decide +kernel
theorem d_Model_jump_24 : decode b_Model_jump 24 = .ok (.bipush 12, 2) := by decide +kernel
theorem d_Model_jump_26 : decode b_Model_jump 26 = .ok (.ishl, 1) := by decide +kernel
theorem d_Model_jump_27 : decode b_Model_jump 27 = .ok (.ior, 1) := by decide +kernel
theorem d_Model_jump_28 : decode b_Model_jump 28 = .ok (.iload_n 1, 1) := by decide +kernel
theorem d_Model_jump_29 : decode b_Model_jump 29 = .ok (.bipush 20, 2) := by decide +kernel
theorem d_Model_jump_31 : decode b_Model_jump 31 = .ok (.iconst 1, 1) := by decide +kernel
theorem d_Model_jump_32 : decode b_Model_jump 32 = .ok (.invokestatic 185, 3) := by decide +kernel
theorem d_Model_jump_35 : decode b_Model_jump 35 = .ok (.bipush 11, 2) := by decide +kernel
theorem d_Model_jump_37 : decode b_Model_jump 37 = .ok (.ishl, 1) := by decide +kernel
theorem d_Model_jump_38 : decode b_Model_jump 38 = .ok (.ior, 1) := by decide +kernel
theorem d_Model_jump_39 : decode b_Model_jump 39 = .ok (.iload_n 1, 1) := by decide +kernel
theorem d_Model_jump_40 : decode b_Model_jump 40 = .ok (.bipush 21, 2) := by decide +kernel
theorem d_Model_jump_42 : decode b_Model_jump 42 = .ok (.bipush 10, 2) := by decide +kernel
theorem d_Model_jump_44 : decode b_Model_jump 44 = .ok (.invokestatic 185, 3) := by decide +kernel
theorem d_Model_jump_47 : decode b_Model_jump 47 = .ok (.iconst 1, 1) := by decide +kernel
theorem d_Model_jump_48 : decode b_Model_jump 48 = .ok (.ishl, 1) := by decide +kernel
theorem d_Model_jump_49 : decode b_Model_jump 49 = .ok (.ior, 1) := by decide +kernel
theorem d_Model_jump_50 : decode b_Model_jump 50 = .ok (.iadd, 1) := by decide +kernel
theorem d_Model_jump_51 : decode b_Model_jump 51 = .ok (.istore_n 2, 1) := by decide +kernel
theorem d_Model_jump_52 : decode b_Model_jump 52 = .ok (.aload_n 0, 1) := by decide +kernel
theorem d_Model_jump_53 : decode b_Model_jump 53 = .ok (.iload_n 2, 1) := by decide +kernel
theorem d_Model_jump_54 : decode b_Model_jump 54 = .ok (.invokevirtual 189, 3) := by decide +kernel
theorem d_Model_jump_57 : decode b_Model_jump 57 = .ok (.aload_n 0, 1) := by decide +kernel
theorem d_Model_jump_58 : decode b_Model_jump 58 = .ok (.iload_n 1, 1) := by decide +kernel
theorem d_Model_jump_59 : decode b_Model_jump 59 = .ok (.bipush 7, 2) := by decide +kernel
theorem d_Model_jump_61 : decode b_Model_jump 61 = .ok (.iconst 5, 1) := by decide +kernel
theorem d_Model_jump_62 : decode b_Model_jump 62 = .ok (.invokestatic 185, 3) := by decide +kernel
theorem d_Model_jump_65 : decode b_Model_jump 65 = .ok (.aload_n 0, 1) := by decide +kernel
theorem d_Model_jump_66 : decode b_Model_jump 66 = .ok (.getfield 17, 3) := by decide +kernel
theorem d_Model_jump_69 : decode b_Model_jump 69 = .ok (.aload_n 0, 1) := by decide +kernel
theorem d_Model_jump_70 : decode b_Model_jump 70 = .ok (.getfield 87, 3) := by decide +kernel
theorem d_Model_jump_73 : decode b_Model_jump 73 = .ok (.iaload, 1) := by decide +kernel
theorem d_Model_jump_74 : decode b_Model_jump 74 = .ok (.iconst 4, 1) := by decide +kernel
theorem d_Model_jump_75 : decode b_Model_jump 75 = .ok (.iadd, 1) := by decide +kernel
theorem d_Model_jump_76 : decode b_Model_jump 76 = .ok (.invokevirtual 193, 3) := by decide +kernel
theorem d_Model_jump_79 : decode b_Model_jump 79 = .ok (.return_, 1) := by decide +kernel
theorem d_Model_branch_0 : decode b_Model_branch 0 = .ok (.aload_n 0, 1) := by decide +kernel
theorem d_Model_branch_1 : decode b_Model_branch 1 = .ok (.iload_n 1, 1) := by decide +kernel
theorem d_Model_branch_2 : decode b_Model_branch 2 = .ok (.bipush 15, 2) := by decide +kernel
theorem d_Model_branch_4 : decode b_Model_branch 4 = .ok (.iconst 5, 1) := by decide +kernel
theorem d_Model_branch_5 : decode b_Model_branch 5 = .ok (.invokestatic 185, 3) := by decide +kernel
theorem d_Model_branch_8 : decode b_Model_branch 8 = .ok (.invokevirtual 196, 3) := by decide +kernel
theorem d_Model_branch_11 : decode b_Model_branch 11 = .ok (.istore_n 2, 1) := by decide +kernel
theorem d_Model_branch_12 : decode b_Model_branch 12 = .ok (.aload_n 0, 1) := by decide +kernel
theorem d_Model_branch_13 : decode b_Model_branch 13 = .ok (.iload_n 1, 1) := by decide +kernel
theorem d_Model_branch_14 : decode b_Model_branch 14 = .ok (.bipush 20, 2) := by decide +kernel
theorem d_Model_branch_16 : decode b_Model_branch 16 = .ok (.iconst 5, 1) := by decide +kernel
theorem d_Model_branch_17 : decode b_Model_branch 17 = .ok (.invokestatic 185, 3) := by decide +kernel
theorem d_Model_branch_20 : decode b_Model_branch 20 = .ok (.invokevirtual 196, 3) := by decide +kernel
theorem d_Model_branch_23 : decode b_Model_branch 23 = .ok (.istore_n 3, 1) := by decide +kernel
theorem d_Model_branch_24 : decode b_Model_branch 24 = .ok (.iload_n 1, 1) := by decide +kernel
theorem d_Model_branch_25 : decode b_Model_branch 25 = .ok (.bipush 12, 2) := by decide +kernel
theorem d_Model_branch_27 : decode b_Model_branch 27 = .ok (.iconst 3, 1) := by decide +kernel
theorem d_Model_branch_28 : decode b_Model_branch 28 = .ok (.invokestatic 185, 3) := by decide +kernel
theorem d_Model_branch_31 : decode b_Model_branch 31 = .ok (.istore 4, 2) := by decide +kernel
theorem d_Model_branch_33 : decode b_Model_branch 33 = .ok (.iload 4, 2) := by decide +kernel
theorem d_Model_branch_35 : decode b_Model_branch 35 = .ok (.iconst 2, 1) := by decide +kernel
theorem d_Model_branch_36 : decode b_Model_branch 36 = .ok (.if_icmp .eq 9, 3) := by decide +kernel
theorem d_Model_branch_39 : decode b_Model_branch 39 = .ok (.iload 4, 2) := by decide +kernel
theorem d_Model_branch_41 : decode b_Model_branch 41 = .ok (.iconst 3, 1) := by decide +kernel
theorem d_Model_branch_42 : decode b_Model_branch 42 = .ok (.if_icmp .ne 10, 3) := by decide +kernel
theorem d_Model_branch_45 : decode b_Model_branch 45 = .ok (.aload_n 0, 1) := by decide +kernel
theorem d_Model_branch_46 : decode b_Model_branch 46 = .ok (.iconst 2, 1) := by decide +kernel
theorem d_Model_branch_47 : decode b_Model_branch 47 = .ok (.iload_n 1, 1) := by decide +kernel
theorem d_Model_branch_48 : decode b_Model_branch 48 = .ok (.invokevirtual 127, 3) := by decide +kernel
theorem d_Model_branch_51 : decode b_Model_branch 51 = .ok (.return_, 1) := by decide +kernel
theorem d_Model_branch_52 : decode b_Model_branch 52 = .ok (.iload 4, 2) := by decide +kernel
theorem d_Model_branch_54 : decode b_Model_branch 54 = .ok (.iconst 2, 1) := by decide +kernel
theorem d_Model_branch_55 : decode b_Model_branch 55 = .ok (.if_icmp .ge 16, 3) := by decide +kernel
theorem d_Model_branch_58 : decode b_Model_branch 58 = .ok (.iload_n 2, 1) := by decide +kernel
theorem d_Model_branch_59 : decode b_Model_branch 59 = .ok (.iload_n 3, 1) := by decide +kernel
theorem d_Model_branch_60 : decode b_Model_branch 60 = .ok (.if_icmp .ne 7, 3) := by decide +kernel
theorem d_Model_branch_63 : decode b_Model_branch 63 = .ok (.iconst 1, 1) := by decide +kernel
theorem d_Model_branch_64 : decode b_Model_branch 64 = .ok (.goto 32, 3) := by decide +kernel
theorem d_Model_branch_67 : decode b_Model_branch 67 = .ok (.iconst 0, 1) := by decide +kernel
theorem d_Model_branch_68 : decode b_Model_branch 68 = .ok (.goto 28, 3) := by decide +kernel
theorem d_Model_branch_71 : decode b_Model_branch 71 = .ok (.iload 4, 2) := by decide +kernel
theorem d_Model_branch_73 : decode b_Model_branch 73 = .ok (.bipush 6, 2) := by decide +kernel
theorem d_Model_branch_75 : decode b_Model_branch 75 = .ok (.if_icmp .ge 16, 3) := by decide +kernel
theorem d_Model_branch_78 : decode b_Model_branch 78 = .ok (.iload_n 2, 1) := by decide +kernel
theorem d_Model_branch_79 : decode b_Model_branch 79 = .ok (.iload_n 3, 1) := by decide +kernel
theorem d_Model_branch_80 : decode b_Model_branch 80 = .ok (.if_icmp .ge 7, 3) := by decide +kernel
theorem d_Model_branch_83 : decode b_Model_branch 83 = .ok (.iconst 1, 1) := by decide +kernel
theorem d_Model_branch_84 : decode b_Model_branch 84 = .ok (.goto 12, 3) := by decide +kernel
theorem d_Model_branch_87 : decode b_Model_branch 87 = .ok (.iconst 0, 1) := by decide +kernel
theorem d_Model_branch_88 : decode b_Model_branch 88 = .ok (.goto 8, 3) := by decide +kernel
theorem d_Model_branch_91 : decode b_Model_branch 91 = .ok (.iload_n 2, 1) := by decide +kernel
theorem d_Model_branch_92 : decode b_Model_branch 92 = .ok (.iload_n 3, 1) := by decide +kernel
theorem d_Model_branch_93 : decode b_Model_branch 93 = .ok (.invokestatic 199, 3) := by decide +kernel
theorem d_Model_branch_96 : decode b_Model_branch 96 = .ok (.istore 5, 2) := by decide +kernel
theorem d_Model_branch_98 : decode b_Model_branch 98 = .ok (.iload 5, 2) := by decide +kernel
theorem d_Model_branch_100 : decode b_Model_branch 100 = .ok (.iload 4, 2) := by decide +kernel
theorem d_Model_branch_102 : decode b_Model_branch 102 = .ok (.iconst 1, 1) := by decide +kernel
theorem d_Model_branch_103 : decode b_Model_branch 103 = .ok (.iand, 1) := by decide +kernel
theorem d_Model_branch_104 : decode b_Model_branch 104 = .ok (.iconst 1, 1) := by decide +kernel
theorem d_Model_branch_105 : decode b_Model_branch 105 = .ok (.if_icmp .ne 7, 3) := by decide +kernel
theorem d_Model_branch_108 : decode b_Model_branch 108 = .ok (.iconst 1, 1) := by decide +kernel
theorem d_Model_branch_109 : decode b_Model_branch 109 = .ok (.goto 4, 3) := by decide +kernel
theorem d_Model_branch_112 : decode b_Model_branch 112 = .ok (.iconst 0, 1) := by decide +kernel
theorem d_Model_branch_113 : decode b_Model_branch 113 = .ok (.if_icmp .ne 4, 3) := by decide +kernel
theorem d_Model_branch_116 : decode b_Model_branch 116 = .ok (.return_, 1) := by decide +kernel
theorem d_Model_branch_117 : decode b_Model_branch 117 = .ok (.aload_n 0, 1) := by decide +kernel
theorem d_Model_branch_118 : decode b_Model_branch 118 = .ok (.aload_n 0, 1) := by decide +kernel
theorem d_Model_branch_119 : decode b_Model_branch 119 = .ok (.getfield 17, 3) := by decide +kernel
theorem d_Model_branch_122 : decode b_Model_branch 122 = .ok (.aload_n 0, 1) := by decide +kernel
theorem d_Model_branch_123 : decode b_Model_branch 123 = .ok (.getfield 87, 3) := by decide +kernel
theorem d_Model_branch_126 : decode b_Model_branch 126 = .ok (.iaload, 1) := by decide +kernel
theorem d_Model_branch_127 : decode b_Model_branch 127 = .ok (.iload_n 1, 1) := by decide +kernel
theorem d_Model_branch_128 : decode b_Model_branch 128 = .ok (.bipush 31, 2) := by decide +kernel
theorem d_Model_branch_130 : decode b_Model_branch 130 = .ok (.ishr, 1) := by decide +kernel
theorem d_Model_branch_131 : decode b_Model_branch 131 = .ok (.bipush 12, 2) := by decide +kernel
theorem d_Model_branch_133 : decode b_Model_branch 133 = .ok (.ishl, 1) := by decide +kernel
theorem d_Model_branch_134 : decode b_Model_branch 134 = .ok (.iload_n 1, 1) := by decide +kernel
theorem d_Model_branch_135 : decode b_Model_branch 135 = .ok (.bipush 7, 2) := by decide +kernel
theorem d_Model_branch_137 : decode b_Model_branch 137 = .ok (.iconst 1, 1) := by decide +kernel
theorem d_Model_branch_138 : decode b_Model_branch 138 = .ok (.invokestatic 185, 3) := by decide +kernel
theorem d_Model_branch_141 : decode b_Model_branch 141 = .ok (.bipush 11, 2) := by decide +kernel
theorem d_Model_branch_143 : decode b_Model_branch 143 = .ok (.ishl, 1) := by decide +kernel
theorem d_Model_branch_144 : decode b_Model_branch 144 = .ok (.ior, 1) := by decide +kernel
theorem d_Model_branch_145 : decode b_Model_branch 145 = .ok (.iload_n 1, 1) := by decide +kernel
theorem d_Model_branch_146 : decode b_Model_branch 146 = .ok (.bipush 25, 2) := by decide +kernel
theorem d_Model_branch_148 : decode b_Model_branch 148 = .ok (.bipush 6, 2) := by decide +kernel
theorem d_Model_branch_150 : decode b_Model_branch 150 = .ok (.invokestatic 185, 3) := by decide +kernel
theorem d_Model_branch_153 : decode b_Model_branch 153 = .ok (.iconst 5, 1) := by decide +kernel
theorem d_Model_branch_154 : decode b_Model_branch 154 = .ok (.ishl, 1) := by decide +kernel
theorem d_Model_branch_155 : decode b_Model_branch 155 = .ok (.ior, 1) := by decide +kernel
theorem d_Model_branch_156 : decode b_Model_branch 156 = .ok (.iload_n 1, 1) := by decide +kernel
theorem d_Model_branch_157 : decode b_Model_branch 157 = .ok (.bipush 8, 2) := by decide +kernel
theorem d_Model_branch_159 : decode b_Model_branch 159 = .ok (.iconst 4, 1) := by decide +kernel
theorem d_Model_branch_160 : decode b_Model_branch 160 = .ok (.invokestatic 185, 3) := by decide +kernel
theorem d_Model_branch_163 : decode b_Model_branch 163 = .ok (.iconst 1, 1) := by decide +kernel
theorem d_Model_branch_164 : decode b_Model_branch 164 = .ok (.ishl, 1) := by decide +kernel
theorem d_Model_branch_165 : decode b_Model_branch 165 = .ok (.ior, 1) := by decide +kernel
theorem d_Model_branch_166 : decode b_Model_branch 166 = .ok (.iadd, 1) := by decide +kernel
theorem d_Model_branch_167 : decode b_Model_branch 167 = .ok (.invokevirtual 189, 3) := by decide +kernel
theorem d_Model_branch_170 : decode b_Model_branch 170 = .ok (.return_, 1) := by decide +kernel
