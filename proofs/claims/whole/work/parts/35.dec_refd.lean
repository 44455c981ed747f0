theorem d_Model_loads_0 : decode b_Model_loads 0 = .ok (.iload_n 1, 1) := by decide +kernel
theorem d_Model_loads_1 : decode b_Model_loads 1 = .ok (.bipush 12, 2) := by decide +kernel
theorem d_Model_loads_3 : decode b_Model_loads 3 = .ok (.iconst 3, 1) := by decide +kernel
theorem d_Model_loads_4 : decode b_Model_loads 4 = .ok (.invokestatic 185, 3) := by decide +kernel
theorem d_Model_loads_7 : decode b_Model_loads 7 = .ok (.istore_n 2, 1) := by decide +kernel
theorem d_Model_loads_8 : decode b_Model_loads 8 = .ok (.iload_n 2, 1) := by decide +kernel
theorem d_Model_loads_9 : decode b_Model_loads 9 = .ok (.iconst 3, 1) := by decide +kernel
theorem d_Model_loads_10 : decode b_Model_loads 10 = .ok (.if_icmp .eq 8, 3) := by decide +kernel
theorem d_Model_loads_13 : decode b_Model_loads 13 = .ok (.iload_n 2, 1) := by decide +kernel
theorem d_Model_loads_14 : decode b_Model_loads 14 = .ok (.iconst 5, 1) := by decide +kernel
theorem d_Model_loads_15 : decode b_Model_loads 15 = .ok (.if_icmp .le 10, 3) := by decide +kernel
theorem d_Model_loads_18 : decode b_Model_loads 18 = .ok (.aload_n 0, 1) := by decide +kernel
theorem d_Model_loads_19 : decode b_Model_loads 19 = .ok (.iconst 2, 1) := by decide +kernel
theorem d_Model_loads_20 : decode b_Model_loads 20 = .ok (.iload_n 1, 1) := by decide +kernel
theorem d_Model_loads_21 : decode b_Model_loads 21 = .ok (.invokevirtual 127, 3) := by decide +kernel
theorem d_Model_loads_24 : decode b_Model_loads 24 = .ok (.return_, 1) := by decide +kernel
theorem d_Model_loads_25 : decode b_Model_loads 25 = .ok (.iconst 1, 1) := by decide +kernel
theorem d_Model_loads_26 : decode b_Model_loads 26 = .ok (.iload_n 2, 1) := by decide +kernel
theorem d_Model_loads_27 : decode b_Model_loads 27 = .ok (.iconst 3, 1) := by decide +kernel
theorem d_Model_loads_28 : decode b_Model_loads 28 = .ok (.iand, 1) := by decide +kernel
theorem d_Model_loads_29 : decode b_Model_loads 29 = .ok (.ishl, 1) := by decide +kernel
theorem d_Model_loads_30 : decode b_Model_loads 30 = .ok (.istore_n 3, 1) := by decide +kernel
theorem d_Model_loads_31 : decode b_Model_loads 31 = .ok (.aload_n 0, 1) := by decide +kernel
theorem d_Model_loads_32 : decode b_Model_loads 32 = .ok (.aload_n 0, 1) := by decide +kernel
theorem d_Model_loads_33 : decode b_Model_loads 33 = .ok (.iload_n 1, 1) := by decide +kernel
theorem d_Model_loads_34 : decode b_Model_loads 34 = .ok (.bipush 15, 2) := by decide +kernel
theorem d_Model_loads_36 : decode b_Model_loads 36 = .ok (.iconst 5, 1) := by decide +kernel
theorem d_Model_loads_37 : decode b_Model_loads 37 = .ok (.invokestatic 185, 3) := by decide +kernel
theorem d_Model_loads_40 : decode b_Model_loads 40 = .ok (.invokevirtual 196, 3) := by decide +kernel
theorem d_Model_loads_43 : decode b_Model_loads 43 = .ok (.iload_n 1, 1) := by decide +kernel
theorem d_Model_loads_44 : decode b_Model_loads 44 = .ok (.bipush 20, 2) := by decide +kernel
theorem d_Model_loads_46 : decode b_Model_loads 46 = .ok (.ishr, 1) := by decide +kernel
theorem d_Model_loads_47 : decode b_Model_loads 47 = .ok (.iadd, 1) := by decide +kernel
theorem d_Model_loads_48 : decode b_Model_loads 48 = .ok (.iload_n 3, 1) := by decide +kernel
theorem d_Model_loads_49 : decode b_Model_loads 49 = .ok (.invokevirtual 203, 3) := by decide +kernel
theorem d_Model_loads_52 : decode b_Model_loads 52 = .ok (.istore 4, 2) := by decide +kernel
theorem d_Model_loads_54 : decode b_Model_loads 54 = .ok (.iload_n 2, 1) := by decide +kernel
theorem d_Model_loads_55 : decode b_Model_loads 55 = .ok (.ifCond .ne 8, 3) := by decide +kernel
theorem d_Model_loads_58 : decode b_Model_loads 58 = .ok (.iload 4, 2) := by decide +kernel
theorem d_Model_loads_60 : decode b_Model_loads 60 = .ok (.i2b, 1) := by decide +kernel
theorem d_Model_loads_61 : decode b_Model_loads 61 = .ok (.istore 4, 2) := by decide +kernel
theorem d_Model_loads_63 : decode b_Model_loads 63 = .ok (.iload_n 2, 1) := by decide +kernel
theorem d_Model_loads_64 : decode b_Model_loads 64 = .ok (.iconst 1, 1) := by decide +kernel
theorem d_Model_loads_65 : decode b_Model_loads 65 = .ok (.if_icmp .ne 8, 3) := by decide +kernel
theorem d_Model_loads_68 : decode b_Model_loads 68 = .ok (.iload 4, 2) := by decide +kernel
theorem d_Model_loads_70 : decode b_Model_loads 70 = .ok (.i2s, 1) := by decide +kernel
theorem d_Model_loads_71 : decode b_Model_loads 71 = .ok (.istore 4, 2) := by decide +kernel
theorem d_Model_loads_73 : decode b_Model_loads 73 = .ok (.aload_n 0, 1) := by decide +kernel
theorem d_Model_loads_74 : decode b_Model_loads 74 = .ok (.iload_n 1, 1) := by decide +kernel
theorem d_Model_loads_75 : decode b_Model_loads 75 = .ok (.bipush 7, 2) := by decide +kernel
theorem d_Model_loads_77 : decode b_Model_loads 77 = .ok (.iconst 5, 1) := by decide +kernel
theorem d_Model_loads_78 : decode b_Model_loads 78 = .ok (.invokestatic 185, 3) := by decide +kernel
theorem d_Model_loads_81 : decode b_Model_loads 81 = .ok (.iload 4, 2) := by decide +kernel
theorem d_Model_loads_83 : decode b_Model_loads 83 = .ok (.invokevirtual 193, 3) := by decide +kernel
theorem d_Model_loads_86 : decode b_Model_loads 86 = .ok (.return_, 1) := by decide +kernel
theorem d_Model_stores_0 : decode b_Model_stores 0 = .ok (.iload_n 1, 1) := by decide +kernel
theorem d_Model_stores_1 : decode b_Model_stores 1 = .ok (.bipush 12, 2) := by decide +kernel
theorem d_Model_stores_3 : decode b_Model_stores 3 = .ok (.iconst 3, 1) := by decide +kernel
theorem d_Model_stores_4 : decode b_Model_stores 4 = .ok (.invokestatic 185, 3) := by decide +kernel
theorem d_Model_stores_7 : decode b_Model_stores 7 = .ok (.istore_n 2, 1) := by decide +kernel
theorem d_Model_stores_8 : decode b_Model_stores 8 = .ok (.iload_n 2, 1) := by decide +kernel
theorem d_Model_stores_9 : decode b_Model_stores 9 = .ok (.iconst 2, 1) := by decide +kernel
theorem d_Model_stores_10 : decode b_Model_stores 10 = .ok (.if_icmp .le 12, 3) := by decide +kernel
theorem d_Model_stores_13 : decode b_Model_stores 13 = .ok (.aload_n 0, 1) := by decide +kernel
theorem d_Model_stores_14 : decode b_Model_stores 14 = .ok (.iconst 2, 1) := by decide +kernel
theorem d_Model_stores_15 : decode b_Model_stores 15 = .ok (.iload_n 1, 1) := by decide +kernel
theorem d_Model_stores_16 : decode b_Model_stores 16 = .ok (.invokevirtual 127, 3) := by decide +kernel
theorem d_Model_stores_19 : decode b_Model_stores 19 = .ok (.goto 47, 3) := by decide +kernel
theorem d_Model_stores_22 : decode b_Model_stores 22 = .ok (.aload_n 0, 1) := by decide +kernel
theorem d_Model_stores_23 : decode b_Model_stores 23 = .ok (.aload_n 0, 1) := by decide +kernel
theorem d_Model_stores_24 : decode b_Model_stores 24 = .ok (.iload_n 1, 1) := by decide +kernel
theorem d_Model_stores_25 : decode b_Model_stores 25 = .ok (.bipush 15, 2) := by decide +kernel
theorem d_Model_stores_27 : decode b_Model_stores 27 = .ok (.iconst 5, 1) := by decide +kernel
theorem d_Model_stores_28 : decode b_Model_stores 28 = .ok (.invokestatic 185, 3) := by decide +kernel
theorem d_Model_stores_31 : decode b_Model_stores 31 = .ok (.invokevirtual 196, 3) := by decide +kernel
theorem d_Model_stores_34 : decode b_Model_stores 34 = .ok (.iload_n 1, 1) := by decide +kernel
theorem d_Model_stores_35 : decode b_Model_stores 35 = .ok (.bipush 25, 2) := by decide +kernel
theorem d_Model_stores_37 : decode b_Model_stores 37 = .ok (.ishr, 1) := by decide +kernel
theorem d_Model_stores_38 : decode b_Model_stores 38 = .ok (.iconst 5, 1) := by decide +kernel
theorem d_Model_stores_39 : decode b_Model_stores 39 = .ok (.ishl, 1) := by decide +kernel
theorem d_Model_stores_40 : decode b_Model_stores 40 = .ok (.iload_n 1, 1) := by decide +kernel
theorem d_Model_stores_41 : decode b_Model_stores 41 = .ok (.bipush 7, 2) := by decide +kernel
theorem d_Model_stores_43 : decode b_Model_stores 43 = .ok (.iconst 5, 1) := by decide +kernel
theorem d_Model_stores_44 : decode b_Model_stores 44 = .ok (.invokestatic 185, 3) := by decide +kernel
theorem d_Model_stores_47 : decode b_Model_stores 47 = .ok (.ior, 1) := by decide +kernel
theorem d_Model_stores_48 : decode b_Model_stores 48 = .ok (.iadd, 1) := by decide +kernel
theorem d_Model_stores_49 : decode b_Model_stores 49 = .ok (.iconst 1, 1) := by decide +kernel
theorem d_Model_stores_50 : decode b_Model_stores 50 = .ok (.iload_n 2, 1) := by decide +kernel
theorem d_Model_stores_51 : decode b_Model_stores 51 = .ok (.ishl, 1) := by decide +kernel
theorem d_Model_stores_52 : decode b_Model_stores 52 = .ok (.aload_n 0, 1) := by decide +kernel
theorem d_Model_stores_53 : decode b_Model_stores 53 = .ok (.iload_n 1, 1) := by decide +kernel
theorem d_Model_stores_54 : decode b_Model_stores 54 = .ok (.bipush 20, 2) := by decide +kernel
theorem d_Model_stores_56 : decode b_Model_stores 56 = .ok (.iconst 5, 1) := by decide +kernel
theorem d_Model_stores_57 : decode b_Model_stores 57 = .ok (.invokestatic 185, 3) := by decide +kernel
theorem d_Model_stores_60 : decode b_Model_stores 60 = .ok (.invokevirtual 196, 3) := by decide +kernel
theorem d_Model_stores_63 : decode b_Model_stores 63 = .ok (.invokevirtual 206, 3) := by decide +kernel
theorem d_Model_stores_66 : decode b_Model_stores 66 = .ok (.return_, 1) := by decide +kernel
theorem d_Model_shifted_0 : decode b_Model_shifted 0 = .ok (.iload_n 2, 1) := by decide +kernel
theorem d_Model_shifted_1 : decode b_Model_shifted 1 = .ok (.ifCond .eq 9, 3) := by decide +kernel
theorem d_Model_shifted_4 : decode b_Model_shifted 4 = .ok (.iload_n 0, 1) := by decide +kernel
theorem d_Model_shifted_5 : decode b_Model_shifted 5 = .ok (.iload_n 1, 1) := by decide +kernel
theorem d_Model_shifted_6 : decode b_Model_shifted 6 = .ok (.ishr, 1) := by decide +kernel
theorem d_Model_shifted_7 : decode b_Model_shifted 7 = .ok (.goto 6, 3) := by decide +kernel
theorem d_Model_shifted_10 : decode b_Model_shifted 10 = .ok (.iload_n 0, 1) := by decide +kernel
theorem d_Model_shifted_11 : decode b_Model_shifted 11 = .ok (.iload_n 1, 1) := by decide +kernel
theorem d_Model_shifted_12 : decode b_Model_shifted 12 = .ok (.iushr, 1) := by decide +kernel
theorem d_Model_shifted_13 : decode b_Model_shifted 13 = .ok (.ireturn, 1) := by decide +kernel
theorem d_Model_plain_0 : decode b_Model_plain 0 = .ok (.iload_n 0, 1) := by decide +kernel
theorem d_Model_plain_1 : decode b_Model_plain 1 = .ok (.tableswitch 87 0 6 #[43, 47, 54, 65, 79, 87, 83], 43) := by decide +kernel
theorem d_Model_plain_44 : decode b_Model_plain 44 = .ok (.iload_n 1, 1) := by decide +kernel
theorem d_Model_plain_45 : decode b_Model_plain 45 = .ok (.iload_n 2, 1) := by decide +kernel
theorem d_Model_plain_46 : decode b_Model_plain 46 = .ok (.iadd, 1) := by decide +kernel
theorem d_Model_plain_47 : decode b_Model_plain 47 = .ok (.ireturn, 1) := by decide +kernel
theorem d_Model_plain_48 : decode b_Model_plain 48 = .ok (.iload_n 1, 1) := by decide +kernel
theorem d_Model_plain_49 : decode b_Model_plain 49 = .ok (.iload_n 2, 1) := by decide +kernel
theorem d_Model_plain_50 : decode b_Model_plain 50 = .ok (.bipush 31, 2) := by decide +kernel
theorem d_Model_plain_52 : decode b_Model_plain 52 = .ok (.iand, 1) := by decide +kernel
theorem d_Model_plain_53 : decode b_Model_plain 53 = .ok (.ishl, 1) := by decide +kernel
theorem d_Model_plain_54 : decode b_Model_plain 54 = .ok (.ireturn, 1) := by decide +kernel
theorem d_Model_plain_55 : decode b_Model_plain 55 = .ok (.iload_n 1, 1) := by decide +kernel
theorem d_Model_plain_56 : decode b_Model_plain 56 = .ok (.iload_n 2, 1) := by decide +kernel
theorem d_Model_plain_57 : decode b_Model_plain 57 = .ok (.if_icmp .ge 7, 3) := by decide +kernel
theorem d_Model_plain_60 : decode b_Model_plain 60 = .ok (.iconst 1, 1) := by decide +kernel
theorem d_Model_plain_61 : decode b_Model_plain 61 = .ok (.goto 4, 3) := by decide +kernel
theorem d_Model_plain_64 : decode b_Model_plain 64 = .ok (.iconst 0, 1) := by decide +kernel
theorem d_Model_plain_65 : decode b_Model_plain 65 = .ok (.ireturn, 1) := by decide +kernel
theorem d_Model_plain_66 : decode b_Model_plain 66 = .ok (.iload_n 1, 1) := by decide +kernel
theorem d_Model_plain_67 : decode b_Model_plain 67 = .ok (.iload_n 2, 1) := by decide +kernel
theorem d_Model_plain_68 : decode b_Model_plain 68 = .ok (.invokestatic 199, 3) := by decide +kernel
theorem d_Model_plain_71 : decode b_Model_plain 71 = .ok (.ifCond .eq 7, 3) := by decide +kernel
theorem d_Model_plain_74 : decode b_Model_plain 74 = .ok (.iconst 1, 1) := by decide +kernel
theorem d_Model_plain_75 : decode b_Model_plain 75 = .ok (.goto 4, 3) := by decide +kernel
theorem d_Model_plain_78 : decode b_Model_plain 78 = .ok (.iconst 0, 1) := by decide +kernel
theorem d_Model_plain_79 : decode b_Model_plain 79 = .ok (.ireturn, 1) := by decide +kernel
theorem d_Model_plain_80 : decode b_Model_plain 80 = .ok (.iload_n 1, 1) := by decide +kernel
theorem d_Model_plain_81 : decode b_Model_plain 81 = .ok (.iload_n 2, 1) := by decide +kernel
theorem d_Model_plain_82 : decode b_Model_plain 82 = .ok (.ixor, 1) := by decide +kernel
theorem d_Model_plain_83 : decode b_Model_plain 83 = .ok (.ireturn, 1) := by decide +kernel
theorem d_Model_plain_84 : decode b_Model_plain 84 = .ok (.iload_n 1, 1) := by decide +kernel
theorem d_Model_plain_85 : decode b_Model_plain 85 = .ok (.iload_n 2, 1) := by decide +kernel
theorem d_Model_plain_86 : decode b_Model_plain 86 = .ok (.ior, 1) := by decide +kernel
theorem d_Model_plain_87 : decode b_Model_plain 87 = .ok (.ireturn, 1) := by decide +kernel
theorem d_Model_plain_88 : decode b_Model_plain 88 = .ok (.iload_n 1, 1) := by decide +kernel
theorem d_Model_plain_89 : decode b_Model_plain 89 = .ok (.iload_n 2, 1) := by decide +kernel
theorem d_Model_plain_90 : decode b_Model_plain 90 = .ok (.iand, 1) := by decide +kernel
theorem d_Model_plain_91 : decode b_Model_plain 91 = .ok (.ireturn, 1) := by decide +kernel
theorem d_Model_product_0 : decode b_Model_product 0 = .ok (.iload_n 0, 1) := by decide +kernel
theorem d_Model_product_1 : decode b_Model_product 1 = .ok (.iconst 3, 1) := by decide +kernel
theorem d_Model_product_2 : decode b_Model_product 2 = .ok (.if_icmp .ne 12, 3) := by decide +kernel
theorem d_Model_product_5 : decode b_Model_product 5 = .ok (.iload_n 1, 1) := by decide +kernel
theorem d_Model_product_6 : decode b_Model_product 6 = .ok (.i2l, 1) := by decide +kernel
theorem d_Model_product_7 : decode b_Model_product 7 = .ok (.ldc2_w 115, 3) := by decide +kernel
theorem d_Model_product_10 : decode b_Model_product 10 = .ok (.land, 1) := by decide +kernel
theorem d_Model_product_11 : decode b_Model_product 11 = .ok (.goto 5, 3) := by decide +kernel
theorem d_Model_product_14 : decode b_Model_product 14 = .ok (.iload_n 1, 1) := by decide +kernel
theorem d_Model_product_15 : decode b_Model_product 15 = .ok (.i2l, 1) := by decide +kernel
theorem d_Model_product_16 : decode b_Model_product 16 = .ok (.lstore_n 3, 1) := by decide +kernel
theorem d_Model_product_17 : decode b_Model_product 17 = .ok (.iload_n 0, 1) := by decide +kernel
theorem d_Model_product_18 : decode b_Model_product 18 = .ok (.iconst 2, 1) := by decide +kernel
theorem d_Model_product_19 : decode b_Model_product 19 = .ok (.if_icmp .eq 8, 3) := by decide +kernel
theorem d_Model_product_22 : decode b_Model_product 22 = .ok (.iload_n 0, 1) := by decide +kernel
theorem d_Model_product_23 : decode b_Model_product 23 = .ok (.iconst 3, 1) := by decide +kernel
theorem d_Model_product_24 : decode b_Model_product 24 = .ok (.if_icmp .ne 12, 3) := by decide +kernel
theorem d_Model_product_27 : decode b_Model_product 27 = .ok (.iload_n 2, 1) := by decide +kernel
theorem d_Model_product_28 : decode b_Model_product 28 = .ok (.i2l, 1) := by decide +kernel
theorem d_Model_product_29 : decode b_Model_product 29 = .ok (.ldc2_w 115, 3) := by decide +kernel
theorem d_Model_product_32 : decode b_Model_product 32 = .ok (.land, 1) := by decide +kernel
theorem d_Model_product_33 : decode b_Model_product 33 = .ok (.goto 5, 3) := by decide +kernel
theorem d_Model_product_36 : decode b_Model_product 36 = .ok (.iload_n 2, 1) := by decide +kernel
theorem d_Model_product_37 : decode b_Model_product 37 = .ok (.i2l, 1) := by decide +kernel
theorem d_Model_product_38 : decode b_Model_product 38 = .ok (.lstore 5, 2) := by decide +kernel
theorem d_Model_product_40 : decode b_Model_product 40 = .ok (.lload_n 3, 1) := by decide +kernel
theorem d_Model_product_41 : decode b_Model_product 41 = .ok (.lload 5, 2) := by decide +kernel
theorem d_Model_product_43 : decode b_Model_product 43 = .ok (.lmul, 1) := by decide +kernel
theorem d_Model_product_44 : decode b_Model_product 44 = .ok (.lstore 7, 2) := by decide +kernel
theorem d_Model_product_46 : decode b_Model_product 46 = .ok (.iload_n 0, 1) := by decide +kernel
theorem d_Model_product_47 : decode b_Model_product 47 = .ok (.ifCond .ne 9, 3) := by decide +kernel
theorem d_Model_product_50 : decode b_Model_product 50 = .ok (.lload 7, 2) := by decide +kernel
theorem d_Model_product_52 : decode b_Model_product 52 = .ok (.l2i, 1) := by decide +kernel
theorem d_Model_product_53 : decode b_Model_product 53 = .ok (.goto 9, 3) := by decide +kernel
theorem d_Model_product_56 : decode b_Model_product 56 = .ok (.lload 7, 2) := by decide +kernel
theorem d_Model_product_58 : decode b_Model_product 58 = .ok (.bipush 32, 2) := by decide +kernel
theorem d_Model_product_60 : decode b_Model_product 60 = .ok (.lushr, 1) := by decide +kernel
theorem d_Model_product_61 : decode b_Model_product 61 = .ok (.l2i, 1) := by decide +kernel
theorem d_Model_product_62 : decode b_Model_product 62 = .ok (.ireturn, 1) := by decide +kernel
theorem d_Model_quotient_0 : decode b_Model_quotient 0 = .ok (.iload_n 0, 1) := by decide +kernel
theorem d_Model_quotient_1 : decode b_Model_quotient 1 = .ok (.iconst 5, 1) := by decide +kernel
theorem d_Model_quotient_2 : decode b_Model_quotient 2 = .ok (.if_icmp .le 7, 3) := by decide +kernel
theorem d_Model_quotient_5 : decode b_Model_quotient 5 = .ok (.iconst 1, 1) := by decide +kernel
theorem d_Model_quotient_6 : decode b_Model_quotient 6 = .ok (.goto 4, 3) := by decide +kernel
theorem d_Model_quotient_9 : decode b_Model_quotient 9 = .ok (.iconst 0, 1) := by decide +kernel
theorem d_Model_quotient_10 : decode b_Model_quotient 10 = .ok (.istore_n 3, 1) := by decide +kernel
theorem d_Model_quotient_11 : decode b_Model_quotient 11 = .ok (.iload_n 2, 1) := by decide +kernel
theorem d_Model_quotient_12 : decode b_Model_quotient 12 = .ok (.ifCond .ne 13, 3) := by decide +kernel
theorem d_Model_quotient_15 : decode b_Model_quotient 15 = .ok (.iload_n 3, 1) := by decide +kernel
theorem d_Model_quotient_16 : decode b_Model_quotient 16 = .ok (.ifCond .eq 7, 3) := by decide +kernel
theorem d_Model_quotient_19 : decode b_Model_quotient 19 = .ok (.iload_n 1, 1) := by decide +kernel
theorem d_Model_quotient_20 : decode b_Model_quotient 20 = .ok (.goto 4, 3) := by decide +kernel
theorem d_Model_quotient_23 : decode b_Model_quotient 23 = .ok (.iconst (-1), 1) := by decide +kernel
theorem d_Model_quotient_24 : decode b_Model_quotient 24 = .ok (.ireturn, 1) := by decide +kernel
theorem d_Model_quotient_25 : decode b_Model_quotient 25 = .ok (.iload_n 0, 1) := by decide +kernel
theorem d_Model_quotient_26 : decode b_Model_quotient 26 = .ok (.iconst 1, 1) := by decide +kernel
theorem d_Model_quotient_27 : decode b_Model_quotient 27 = .ok (.iand, 1) := by decide +kernel
theorem d_Model_quotient_28 : decode b_Model_quotient 28 = .ok (.iconst 1, 1) := by decide +kernel
theorem d_Model_quotient_29 : decode b_Model_quotient 29 = .ok (.if_icmp .ne 12, 3) := by decide +kernel
theorem d_Model_quotient_32 : decode b_Model_quotient 32 = .ok (.iload_n 1, 1) := by decide +kernel
theorem d_Model_quotient_33 : decode b_Model_quotient 33 = .ok (.i2l, 1) := by decide +kernel
theorem d_Model_quotient_34 : decode b_Model_quotient 34 = .ok (.ldc2_w 115, 3) := by decide +kernel
theorem d_Model_quotient_37 : decode b_Model_quotient 37 = .ok (.land, 1) := by decide +kernel
theorem d_Model_quotient_38 : decode b_Model_quotient 38 = .ok (.goto 5, 3) := by decide +kernel
theorem d_Model_quotient_41 : decode b_Model_quotient 41 = .ok (.iload_n 1, 1) := by decide +kernel
theorem d_Model_quotient_42 : decode b_Model_quotient 42 = .ok (.i2l, 1) := by decide +kernel
theorem d_Model_quotient_43 : decode b_Model_quotient 43 = .ok (.lstore 4, 2) := by decide +kernel
theorem d_Model_quotient_45 : decode b_Model_quotient 45 = .ok (.iload_n 0, 1) := by decide +kernel
theorem d_Model_quotient_46 : decode b_Model_quotient 46 = .ok (.iconst 1, 1) := by decide +kernel
theorem d_Model_quotient_47 : decode b_Model_quotient 47 = .ok (.iand, 1) := by decide +kernel
theorem d_Model_quotient_48 : decode b_Model_quotient 48 = .ok (.iconst 1, 1) := by decide +kernel
theorem d_Model_quotient_49 : decode b_Model_quotient 49 = .ok (.if_icmp .ne 12, 3) := by decide +kernel
theorem d_Model_quotient_52 : decode b_Model_quotient 52 = .ok (.iload_n 2, 1) := by decide +kernel
theorem d_Model_quotient_53 : decode b_Model_quotient 53 = .ok (.i2l, 1) := by decide +kernel
theorem d_Model_quotient_54 : decode b_Model_quotient 54 = .ok (.ldc2_w 115, 3) := by decide +kernel
theorem d_Model_quotient_57 : decode b_Model_quotient 57 = .ok (.land, 1) := by decide +kernel
theorem d_Model_quotient_58 : decode b_Model_quotient 58 = .ok (.goto 5, 3) := by decide +kernel
theorem d_Model_quotient_61 : decode b_Model_quotient 61 = .ok (.iload_n 2, 1) := by decide +kernel
theorem d_Model_quotient_62 : decode b_Model_quotient 62 = .ok (.i2l, 1) := by decide +kernel
theorem d_Model_quotient_63 : decode b_Model_quotient 63 = .ok (.lstore 6, 2) := by decide +kernel
theorem d_Model_quotient_65 : decode b_Model_quotient 65 = .ok (.iload_n 3, 1) := by decide +kernel
theorem d_Model_quotient_66 : decode b_Model_quotient 66 = .ok (.ifCond .eq 11, 3) := by decide +kernel
theorem d_Model_quotient_69 : decode b_Model_quotient 69 = .ok (.lload 4, 2) := by decide +kernel
theorem d_Model_quotient_71 : decode b_Model_quotient 71 = .ok (.lload 6, 2) := by decide +kernel
theorem d_Model_quotient_73 : decode b_Model_quotient 73 = .ok (.lrem, 1) := by decide +kernel
theorem d_Model_quotient_74 : decode b_Model_quotient 74 = .ok (.goto 8, 3) := by decide +kernel
theorem d_Model_quotient_77 : decode b_Model_quotient 77 = .ok (.lload 4, 2) := by decide +kernel
theorem d_Model_quotient_79 : decode b_Model_quotient 79 = .ok (.lload 6, 2) := by decide +kernel
theorem d_Model_quotient_81 : decode b_Model_quotient 81 = .ok (.ldiv, 1) := by decide +kernel
theorem d_Model_quotient_82 : decode b_Model_quotient 82 = .ok (.l2i, 1) := by decide +kernel
theorem d_Model_quotient_83 : decode b_Model_quotient 83 = .ok (.ireturn, 1) := by decide +kernel
theorem d_Model_reckon_0 : decode b_Model_reckon 0 = .ok (.aload_n 0, 1) := by decide +kernel
theorem d_Model_reckon_1 : decode b_Model_reckon 1 = .ok (.iload_n 1, 1) := by decide +kernel
theorem d_Model_reckon_2 : decode b_Model_reckon 2 = .ok (.bipush 15, 2) := by decide +kernel
theorem d_Model_reckon_4 : decode b_Model_reckon 4 = .ok (.iconst 5, 1) := by decide +kernel
theorem d_Model_reckon_5 : decode b_Model_reckon 5 = .ok (.invokestatic 185, 3) := by decide +kernel
theorem d_Model_reckon_8 : decode b_Model_reckon 8 = .ok (.invokevirtual 196, 3) := by decide +kernel
theorem d_Model_reckon_11 : decode b_Model_reckon 11 = .ok (.istore_n 3, 1) := by decide +kernel
theorem d_Model_reckon_12 : decode b_Model_reckon 12 = .ok (.iload_n 2, 1) := by decide +kernel
theorem d_Model_reckon_13 : decode b_Model_reckon 13 = .ok (.ifCond .eq 17, 3) := by decide +kernel
theorem d_Model_reckon_16 : decode b_Model_reckon 16 = .ok (.aload_n 0, 1) := by decide +kernel
theorem d_Model_reckon_17 : decode b_Model_reckon 17 = .ok (.iload_n 1, 1) := by decide +kernel
theorem d_Model_reckon_18 : decode b_Model_reckon 18 = .ok (.bipush 20, 2) := by decide +kernel
theorem d_Model_reckon_20 : decode b_Model_reckon 20 = .ok (.iconst 5, 1) := by decide +kernel
theorem d_Model_reckon_21 : decode b_Model_reckon 21 = .ok (.invokestatic 185, 3) := by decide +kernel
theorem d_Model_reckon_24 : decode b_Model_reckon 24 = .ok (.invokevirtual 196, 3) := by decide +kernel
theorem d_Model_reckon_27 : decode b_Model_reckon 27 = .ok (.goto 7, 3) := by decide +kernel
theorem d_Model_reckon_30 : decode b_Model_reckon 30 = .ok (.iload_n 1, 1) := by decide +kernel
theorem d_Model_reckon_31 : decode b_Model_reckon 31 = .ok (.bipush 20, 2) := by decide +kernel
theorem d_Model_reckon_33 : decode b_Model_reckon 33 = .ok (.ishr, 1) := by decide +kernel
theorem d_Model_reckon_34 : decode b_Model_reckon 34 = .ok (.istore 4, 2) := by decide +kernel
theorem d_Model_reckon_36 : decode b_Model_reckon 36 = .ok (.iload_n 1, 1) := by decide +kernel
theorem d_Model_reckon_37 : decode b_Model_reckon 37 = .ok (.bipush 12, 2) := by decide +kernel
theorem d_Model_reckon_39 : decode b_Model_reckon 39 = .ok (.iconst 3, 1) := by decide +kernel
theorem d_Model_reckon_40 : decode b_Model_reckon 40 = .ok (.invokestatic 185, 3) := by decide +kernel
theorem d_Model_reckon_43 : decode b_Model_reckon 43 = .ok (.istore 5, 2) := by decide +kernel
theorem d_Model_reckon_45 : decode b_Model_reckon 45 = .ok (.iload_n 1, 1) := by decide +kernel
theorem d_Model_reckon_46 : decode b_Model_reckon 46 = .ok (.bipush 25, 2) := by decide +kernel
theorem d_Model_reckon_48 : decode b_Model_reckon 48 = .ok (.bipush 7, 2) := by decide +kernel
theorem d_Model_reckon_50 : decode b_Model_reckon 50 = .ok (.invokestatic 185, 3) := by decide +kernel
theorem d_Model_reckon_53 : decode b_Model_reckon 53 = .ok (.istore 6, 2) := by decide +kernel
theorem d_Model_reckon_55 : decode b_Model_reckon 55 = .ok (.iload_n 2, 1) := by decide +kernel
theorem d_Model_reckon_56 : decode b_Model_reckon 56 = .ok (.ifCond .eq 11, 3) := by decide +kernel
theorem d_Model_reckon_59 : decode b_Model_reckon 59 = .ok (.iload 4, 2) := by decide +kernel
theorem d_Model_reckon_61 : decode b_Model_reckon 61 = .ok (.bipush 31, 2) := by decide +kernel
theorem d_Model_reckon_63 : decode b_Model_reckon 63 = .ok (.iand, 1) := by decide +kernel
theorem d_Model_reckon_64 : decode b_Model_reckon 64 = .ok (.goto 10, 3) := by decide +kernel
theorem d_Model_reckon_67 : decode b_Model_reckon 67 = .ok (.iload_n 1, 1) := by decide +kernel
theorem d_Model_reckon_68 : decode b_Model_reckon 68 = .ok (.bipush 20, 2) := by decide +kernel
theorem d_Model_reckon_70 : decode b_Model_reckon 70 = .ok (.iconst 5, 1) := by decide +kernel
theorem d_Model_reckon_71 : decode b_Model_reckon 71 = .ok (.invokestatic 185, 3) := by decide +kernel
theorem d_Model_reckon_74 : decode b_Model_reckon 74 = .ok (.istore 7, 2) := by decide +kernel
theorem d_Model_reckon_76 : decode b_Model_reckon 76 = .ok (.iload 5, 2) := by decide +kernel
theorem d_Model_reckon_78 : decode b_Model_reckon 78 = .ok (.iconst 1, 1) := by decide +kernel
theorem d_Model_reckon_79 : decode b_Model_reckon 79 = .ok (.if_icmp .eq 9, 3) := by decide +kernel
theorem d_Model_reckon_82 : decode b_Model_reckon 82 = .ok (.iload 5, 2) := by decide +kernel
theorem d_Model_reckon_84 : decode b_Model_reckon 84 = .ok (.iconst 5, 1) := by decide +kernel
theorem d_Model_reckon_85 : decode b_Model_reckon 85 = .ok (.if_icmp .ne 7, 3) := by decide +kernel
theorem d_Model_reckon_88 : decode b_Model_reckon 88 = .ok (.iconst 1, 1) := by decide +kernel
theorem d_Model_reckon_89 : decode b_Model_reckon 89 = .ok (.goto 4, 3) := by decide +kernel
theorem d_Model_reckon_92 : decode b_Model_reckon 92 = .ok (.iconst 0, 1) := by decide +kernel
theorem d_Model_reckon_93 : decode b_Model_reckon 93 = .ok (.istore 8, 2) := by decide +kernel
theorem d_Model_reckon_95 : decode b_Model_reckon 95 = .ok (.iload_n 2, 1) := by decide +kernel
theorem d_Model_reckon_96 : decode b_Model_reckon 96 = .ok (.ifCond .eq 40, 3) := by decide +kernel
theorem d_Model_reckon_99 : decode b_Model_reckon 99 = .ok (.iload 6, 2) := by decide +kernel
theorem d_Model_reckon_101 : decode b_Model_reckon 101 = .ok (.ifCond .eq 27, 3) := by decide +kernel
theorem d_Model_reckon_104 : decode b_Model_reckon 104 = .ok (.iload 6, 2) := by decide +kernel
theorem d_Model_reckon_106 : decode b_Model_reckon 106 = .ok (.iconst 1, 1) := by decide +kernel
theorem d_Model_reckon_107 : decode b_Model_reckon 107 = .ok (.if_icmp .eq 21, 3) := by decide +kernel
theorem d_Model_reckon_110 : decode b_Model_reckon 110 = .ok (.iload 6, 2) := by decide +kernel
theorem d_Model_reckon_112 : decode b_Model_reckon 112 = .ok (.bipush 32, 2) := by decide +kernel
theorem d_Model_reckon_114 : decode b_Model_reckon 114 = .ok (.if_icmp .ne 18, 3) := by decide +kernel
theorem d_Model_reckon_117 : decode b_Model_reckon 117 = .ok (.iload 5, 2) := by decide +kernel
theorem d_Model_reckon_119 : decode b_Model_reckon 119 = .ok (.ifCond .eq 9, 3) := by decide +kernel
theorem d_Model_reckon_122 : decode b_Model_reckon 122 = .ok (.iload 5, 2) := by decide +kernel
theorem d_Model_reckon_124 : decode b_Model_reckon 124 = .ok (.iconst 5, 1) := by decide +kernel
theorem d_Model_reckon_125 : decode b_Model_reckon 125 = .ok (.if_icmp .ne 7, 3) := by decide +kernel
theorem d_Model_reckon_128 : decode b_Model_reckon 128 = .ok (.iconst 1, 1) := by decide +kernel
theorem d_Model_reckon_129 : decode b_Model_reckon 129 = .ok (.goto 35, 3) := by decide +kernel
theorem d_Model_reckon_132 : decode b_Model_reckon 132 = .ok (.iconst 0, 1) := by decide +kernel
theorem d_Model_reckon_133 : decode b_Model_reckon 133 = .ok (.goto 31, 3) := by decide +kernel
theorem d_Model_reckon_136 : decode b_Model_reckon 136 = .ok (.iload 8, 2) := by decide +kernel
theorem d_Model_reckon_138 : decode b_Model_reckon 138 = .ok (.ifCond .eq 21, 3) := by decide +kernel
theorem d_Model_reckon_141 : decode b_Model_reckon 141 = .ok (.iload 6, 2) := by decide +kernel
theorem d_Model_reckon_143 : decode b_Model_reckon 143 = .ok (.ifCond .eq 16, 3) := by decide +kernel
theorem d_Model_reckon_146 : decode b_Model_reckon 146 = .ok (.iload 6, 2) := by decide +kernel
theorem d_Model_reckon_148 : decode b_Model_reckon 148 = .ok (.bipush 32, 2) := by decide +kernel
theorem d_Model_reckon_150 : decode b_Model_reckon 150 = .ok (.if_icmp .ne 13, 3) := by decide +kernel
theorem d_Model_reckon_153 : decode b_Model_reckon 153 = .ok (.iload 5, 2) := by decide +kernel
theorem d_Model_reckon_155 : decode b_Model_reckon 155 = .ok (.iconst 5, 1) := by decide +kernel
theorem d_Model_reckon_156 : decode b_Model_reckon 156 = .ok (.if_icmp .ne 7, 3) := by decide +kernel
theorem d_Model_reckon_159 : decode b_Model_reckon 159 = .ok (.iconst 1, 1) := by decide +kernel
theorem d_Model_reckon_160 : decode b_Model_reckon 160 = .ok (.goto 4, 3) := by decide +kernel
theorem d_Model_reckon_163 : decode b_Model_reckon 163 = .ok (.iconst 0, 1) := by decide +kernel
theorem d_Model_reckon_164 : decode b_Model_reckon 164 = .ok (.istore 9, 2) := by decide +kernel
theorem d_Model_reckon_166 : decode b_Model_reckon 166 = .ok (.iload 9, 2) := by decide +kernel
theorem d_Model_reckon_168 : decode b_Model_reckon 168 = .ok (.ifCond .ne 10, 3) := by decide +kernel
theorem d_Model_reckon_171 : decode b_Model_reckon 171 = .ok (.aload_n 0, 1) := by decide +kernel
theorem d_Model_reckon_172 : decode b_Model_reckon 172 = .ok (.iconst 2, 1) := by decide +kernel
theorem d_Model_reckon_173 : decode b_Model_reckon 173 = .ok (.iload_n 1, 1) := by decide +kernel
theorem d_Model_reckon_174 : decode b_Model_reckon 174 = .ok (.invokevirtual 127, 3) := by decide +kernel
theorem d_Model_reckon_177 : decode b_Model_reckon 177 = .ok (.return_, 1) := by decide +kernel
theorem d_Model_reckon_178 : decode b_Model_reckon 178 = .ok (.iload 5, 2) := by decide +kernel
theorem d_Model_reckon_180 : decode b_Model_reckon 180 = .ok (.iconst 5, 1) := by decide +kernel
theorem d_Model_reckon_181 : decode b_Model_reckon 181 = .ok (.if_icmp .ne 24, 3) := by decide +kernel
theorem d_Model_reckon_184 : decode b_Model_reckon 184 = .ok (.iload_n 3, 1) := by decide +kernel
theorem d_Model_reckon_185 : decode b_Model_reckon 185 = .ok (.iload 7, 2) := by decide +kernel
theorem d_Model_reckon_187 : decode b_Model_reckon 187 = .ok (.iload 6, 2) := by decide +kernel
theorem d_Model_reckon_189 : decode b_Model_reckon 189 = .ok (.bipush 32, 2) := by decide +kernel
theorem d_Model_reckon_191 : decode b_Model_reckon 191 = .ok (.if_icmp .ne 7, 3) := by decide +kernel
theorem d_Model_reckon_194 : decode b_Model_reckon 194 = .ok (.iconst 1, 1) := by decide +kernel
theorem d_Model_reckon_195 : decode b_Model_reckon 195 = .ok (.goto 4, 3) := by decide +kernel
theorem d_Model_reckon_198 : decode b_Model_reckon 198 = .ok (.iconst 0, 1) := by decide +kernel
theorem d_Model_reckon_199 : decode b_Model_reckon 199 = .ok (.invokestatic 209, 3) := by decide +kernel
theorem d_Model_reckon_202 : decode b_Model_reckon 202 = .ok (.goto 24, 3) := by decide +kernel
theorem d_Model_reckon_205 : decode b_Model_reckon 205 = .ok (.iload 5, 2) := by decide +kernel
theorem d_Model_reckon_207 : decode b_Model_reckon 207 = .ok (.iconst 1, 1) := by decide +kernel
theorem d_Model_reckon_208 : decode b_Model_reckon 208 = .ok (.if_icmp .ne 10, 3) := by decide +kernel
theorem d_Model_reckon_211 : decode b_Model_reckon 211 = .ok (.iload_n 3, 1) := by decide +kernel
theorem d_Model_reckon_212 : decode b_Model_reckon 212 = .ok (.iload 7, 2) := by decide +kernel
theorem d_Model_reckon_214 : decode b_Model_reckon 214 = .ok (.ishl, 1) := by decide +kernel
theorem d_Model_reckon_215 : decode b_Model_reckon 215 = .ok (.goto 11, 3) := by decide +kernel
theorem d_Model_reckon_218 : decode b_Model_reckon 218 = .ok (.iload 5, 2) := by decide +kernel
theorem d_Model_reckon_220 : decode b_Model_reckon 220 = .ok (.iload_n 3, 1) := by decide +kernel
theorem d_Model_reckon_221 : decode b_Model_reckon 221 = .ok (.iload 4, 2) := by decide +kernel
theorem d_Model_reckon_223 : decode b_Model_reckon 223 = .ok (.invokestatic 213, 3) := by decide +kernel
theorem d_Model_reckon_226 : decode b_Model_reckon 226 = .ok (.istore 10, 2) := by decide +kernel
theorem d_Model_reckon_228 : decode b_Model_reckon 228 = .ok (.iload_n 2, 1) := by decide +kernel
theorem d_Model_reckon_229 : decode b_Model_reckon 229 = .ok (.ifCond .eq 21, 3) := by decide +kernel
theorem d_Model_reckon_232 : decode b_Model_reckon 232 = .ok (.iload 6, 2) := by decide +kernel
theorem d_Model_reckon_234 : decode b_Model_reckon 234 = .ok (.bipush 32, 2) := by decide +kernel
theorem d_Model_reckon_236 : decode b_Model_reckon 236 = .ok (.if_icmp .ne 14, 3) := by decide +kernel
theorem d_Model_reckon_239 : decode b_Model_reckon 239 = .ok (.iload 5, 2) := by decide +kernel
theorem d_Model_reckon_241 : decode b_Model_reckon 241 = .ok (.ifCond .ne 9, 3) := by decide +kernel
theorem d_Model_reckon_244 : decode b_Model_reckon 244 = .ok (.iload_n 3, 1) := by decide +kernel
theorem d_Model_reckon_245 : decode b_Model_reckon 245 = .ok (.iload 4, 2) := by decide +kernel
theorem d_Model_reckon_247 : decode b_Model_reckon 247 = .ok (.isub, 1) := by decide +kernel
theorem d_Model_reckon_248 : decode b_Model_reckon 248 = .ok (.istore 10, 2) := by decide +kernel
theorem d_Model_reckon_250 : decode b_Model_reckon 250 = .ok (.iload_n 2, 1) := by decide +kernel
theorem d_Model_reckon_251 : decode b_Model_reckon 251 = .ok (.ifCond .eq 36, 3) := by decide +kernel
theorem d_Model_reckon_254 : decode b_Model_reckon 254 = .ok (.iload 6, 2) := by decide +kernel
theorem d_Model_reckon_256 : decode b_Model_reckon 256 = .ok (.iconst 1, 1) := by decide +kernel
theorem d_Model_reckon_257 : decode b_Model_reckon 257 = .ok (.if_icmp .ne 30, 3) := by decide +kernel
theorem d_Model_reckon_260 : decode b_Model_reckon 260 = .ok (.iload 5, 2) := by decide +kernel
theorem d_Model_reckon_262 : decode b_Model_reckon 262 = .ok (.iconst 4, 1) := by decide +kernel
theorem d_Model_reckon_263 : decode b_Model_reckon 263 = .ok (.if_icmp .ge 14, 3) := by decide +kernel
theorem d_Model_reckon_266 : decode b_Model_reckon 266 = .ok (.iload 5, 2) := by decide +kernel
theorem d_Model_reckon_268 : decode b_Model_reckon 268 = .ok (.iload_n 3, 1) := by decide +kernel
theorem d_Model_reckon_269 : decode b_Model_reckon 269 = .ok (.iload 4, 2) := by decide +kernel
theorem d_Model_reckon_271 : decode b_Model_reckon 271 = .ok (.invokestatic 216, 3) := by decide +kernel
theorem d_Model_reckon_274 : decode b_Model_reckon 274 = .ok (.goto 11, 3) := by decide +kernel
theorem d_Model_reckon_277 : decode b_Model_reckon 277 = .ok (.iload 5, 2) := by decide +kernel
theorem d_Model_reckon_279 : decode b_Model_reckon 279 = .ok (.iload_n 3, 1) := by decide +kernel
theorem d_Model_reckon_280 : decode b_Model_reckon 280 = .ok (.iload 4, 2) := by decide +kernel
theorem d_Model_reckon_282 : decode b_Model_reckon 282 = .ok (.invokestatic 219, 3) := by decide +kernel
theorem d_Model_reckon_285 : decode b_Model_reckon 285 = .ok (.istore 10, 2) := by decide +kernel
theorem d_Model_reckon_287 : decode b_Model_reckon 287 = .ok (.aload_n 0, 1) := by decide +kernel
theorem d_Model_reckon_288 : decode b_Model_reckon 288 = .ok (.iload_n 1, 1) := by decide +kernel
theorem d_Model_reckon_289 : decode b_Model_reckon 289 = .ok (.bipush 7, 2) := by decide +kernel
theorem d_Model_reckon_291 : decode b_Model_reckon 291 = .ok (.iconst 5, 1) := by decide +kernel
theorem d_Model_reckon_292 : decode b_Model_reckon 292 = .ok (.invokestatic 185, 3) := by decide +kernel
theorem d_Model_reckon_295 : decode b_Model_reckon 295 = .ok (.iload 10, 2) := by decide +kernel
theorem d_Model_reckon_297 : decode b_Model_reckon 297 = .ok (.invokevirtual 193, 3) := by decide +kernel
theorem d_Model_reckon_300 : decode b_Model_reckon 300 = .ok (.return_, 1) := by decide +kernel
theorem d_Model_changed_0 : decode b_Model_changed 0 = .ok (.iload_n 0, 1) := by decide +kernel
theorem d_Model_changed_1 : decode b_Model_changed 1 = .ok (.tableswitch 169 0 24 #[117, 115, 169, 169, 121, 169, 169, 169, 129, 169, 169, 169, 125, 169, 169, 169, 133, 169, 169, 169, 144, 169, 169, 169, 155], 115) := by decide +kernel
theorem d_Model_changed_116 : decode b_Model_changed 116 = .ok (.iload_n 2, 1) := by decide +kernel
theorem d_Model_changed_117 : decode b_Model_changed 117 = .ok (.ireturn, 1) := by decide +kernel
theorem d_Model_changed_118 : decode b_Model_changed 118 = .ok (.iload_n 1, 1) := by decide +kernel
theorem d_Model_changed_119 : decode b_Model_changed 119 = .ok (.iload_n 2, 1) := by decide +kernel
theorem d_Model_changed_120 : decode b_Model_changed 120 = .ok (.iadd, 1) := by decide +kernel
theorem d_Model_changed_121 : decode b_Model_changed 121 = .ok (.ireturn, 1) := by decide +kernel
theorem d_Model_changed_122 : decode b_Model_changed 122 = .ok (.iload_n 1, 1) := by decide +kernel
theorem d_Model_changed_123 : decode b_Model_changed 123 = .ok (.iload_n 2, 1) := by decide +kernel
theorem d_Model_changed_124 : decode b_Model_changed 124 = .ok (.ixor, 1) := by decide +kernel
theorem d_Model_changed_125 : decode b_Model_changed 125 = .ok (.ireturn, 1) := by decide +kernel
theorem d_Model_changed_126 : decode b_Model_changed 126 = .ok (.iload_n 1, 1) := by decide +kernel
theorem d_Model_changed_127 : decode b_Model_changed 127 = .ok (.iload_n 2, 1) := by decide +kernel
theorem d_Model_changed_128 : decode b_Model_changed 128 = .ok (.iand, 1) := by decide +kernel
theorem d_Model_changed_129 : decode b_Model_changed 129 = .ok (.ireturn, 1) := by decide +kernel
theorem d_Model_changed_130 : decode b_Model_changed 130 = .ok (.iload_n 1, 1) := by decide +kernel
theorem d_Model_changed_131 : decode b_Model_changed 131 = .ok (.iload_n 2, 1) := by decide +kernel
theorem d_Model_changed_132 : decode b_Model_changed 132 = .ok (.ior, 1) := by decide +kernel
theorem d_Model_changed_133 : decode b_Model_changed 133 = .ok (.ireturn, 1) := by decide +kernel
theorem d_Model_changed_134 : decode b_Model_changed 134 = .ok (.iload_n 1, 1) := by decide +kernel
theorem d_Model_changed_135 : decode b_Model_changed 135 = .ok (.iload_n 2, 1) := by decide +kernel
theorem d_Model_changed_136 : decode b_Model_changed 136 = .ok (.if_icmp .ge 7, 3) := by decide +kernel
theorem d_Model_changed_139 : decode b_Model_changed 139 = .ok (.iload_n 1, 1) := by decide +kernel
theorem d_Model_changed_140 : decode b_Model_changed 140 = .ok (.goto 4, 3) := by decide +kernel
theorem d_Model_changed_143 : decode b_Model_changed 143 = .ok (.iload_n 2, 1) := by decide +kernel
theorem d_Model_changed_144 : decode b_Model_changed 144 = .ok (.ireturn, 1) := by decide +kernel
theorem d_Model_changed_145 : decode b_Model_changed 145 = .ok (.iload_n 1, 1) := by decide +kernel
theorem d_Model_changed_146 : decode b_Model_changed 146 = .ok (.iload_n 2, 1) := by decide +kernel
theorem d_Model_changed_147 : decode b_Model_changed 147 = .ok (.if_icmp .le 7, 3) := by decide +kernel
theorem d_Model_changed_150 : decode b_Model_changed 150 = .ok (.iload_n 1, 1) := by decide +kernel
theorem d_Model_changed_151 : decode b_Model_changed 151 = .ok (.goto 4, 3) := by decide +kernel
theorem d_Model_changed_154 : decode b_Model_changed 154 = .ok (.iload_n 2, 1) := by decide +kernel
theorem d_Model_changed_155 : decode b_Model_changed 155 = .ok (.ireturn, 1) := by decide +kernel
theorem d_Model_changed_156 : decode b_Model_changed 156 = .ok (.iload_n 1, 1) := by decide +kernel
theorem d_Model_changed_157 : decode b_Model_changed 157 = .ok (.iload_n 2, 1) := by decide +kernel
theorem d_Model_changed_158 : decode b_Model_changed 158 = .ok (.invokestatic 199, 3) := by decide +kernel
theorem d_Model_changed_161 : decode b_Model_changed 161 = .ok (.ifCond .eq 7, 3) := by decide +kernel
theorem d_Model_changed_164 : decode b_Model_changed 164 = .ok (.iload_n 1, 1) := by decide +kernel
theorem d_Model_changed_165 : decode b_Model_changed 165 = .ok (.goto 4, 3) := by decide +kernel
theorem d_Model_changed_168 : decode b_Model_changed 168 = .ok (.iload_n 2, 1) := by decide +kernel
theorem d_Model_changed_169 : decode b_Model_changed 169 = .ok (.ireturn, 1) := by decide +kernel
theorem d_Model_changed_170 : decode b_Model_changed 170 = .ok (.iload_n 1, 1) := by decide +kernel
theorem d_Model_changed_171 : decode b_Model_changed 171 = .ok (.iload_n 2, 1) := by decide +kernel
theorem d_Model_changed_172 : decode b_Model_changed 172 = .ok (.invokestatic 199, 3) := by decide +kernel
theorem d_Model_changed_175 : decode b_Model_changed 175 = .ok (.ifCond .eq 7, 3) := by decide +kernel
theorem d_Model_changed_178 : decode b_Model_changed 178 = .ok (.iload_n 2, 1) := by decide +kernel
theorem d_Model_changed_179 : decode b_Model_changed 179 = .ok (.goto 4, 3) := by decide +kernel
theorem d_Model_changed_182 : decode b_Model_changed 182 = .ok (.iload_n 1, 1) := by decide +kernel
theorem d_Model_changed_183 : decode b_Model_changed 183 = .ok (.ireturn, 1) := by decide +kernel
