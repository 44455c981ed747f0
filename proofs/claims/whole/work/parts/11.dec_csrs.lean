theorem d_Csrs_restart_0 : decode b_Csrs_restart 0 = .ok (.aload_n 0, 1) := by decide +kernel
theorem d_Csrs_restart_1 : decode b_Csrs_restart 1 = .ok (.iconst 0, 1) := by decide +kernel
theorem d_Csrs_restart_2 : decode b_Csrs_restart 2 = .ok (.putfield 15, 3) := by decide +kernel
theorem d_Csrs_restart_5 : decode b_Csrs_restart 5 = .ok (.aload_n 0, 1) := by decide +kernel
theorem d_Csrs_restart_6 : decode b_Csrs_restart 6 = .ok (.iconst 0, 1) := by decide +kernel
theorem d_Csrs_restart_7 : decode b_Csrs_restart 7 = .ok (.putfield 18, 3) := by decide +kernel
theorem d_Csrs_restart_10 : decode b_Csrs_restart 10 = .ok (.aload_n 0, 1) := by decide +kernel
theorem d_Csrs_restart_11 : decode b_Csrs_restart 11 = .ok (.iconst 0, 1) := by decide +kernel
theorem d_Csrs_restart_12 : decode b_Csrs_restart 12 = .ok (.putfield 21, 3) := by decide +kernel
theorem d_Csrs_restart_15 : decode b_Csrs_restart 15 = .ok (.aload_n 0, 1) := by decide +kernel
theorem d_Csrs_restart_16 : decode b_Csrs_restart 16 = .ok (.iconst 0, 1) := by decide +kernel
theorem d_Csrs_restart_17 : decode b_Csrs_restart 17 = .ok (.putfield 24, 3) := by decide +kernel
theorem d_Csrs_restart_20 : decode b_Csrs_restart 20 = .ok (.aload_n 0, 1) := by decide +kernel
theorem d_Csrs_restart_21 : decode b_Csrs_restart 21 = .ok (.iconst 0, 1) := by decide +kernel
theorem d_Csrs_restart_22 : decode b_Csrs_restart 22 = .ok (.putfield 27, 3) := by decide +kernel
theorem d_Csrs_restart_25 : decode b_Csrs_restart 25 = .ok (.aload_n 0, 1) := by decide +kernel
theorem d_Csrs_restart_26 : decode b_Csrs_restart 26 = .ok (.iconst 0, 1) := by decide +kernel
theorem d_Csrs_restart_27 : decode b_Csrs_restart 27 = .ok (.putfield 30, 3) := by decide +kernel
theorem d_Csrs_restart_30 : decode b_Csrs_restart 30 = .ok (.aload_n 0, 1) := by decide +kernel
theorem d_Csrs_restart_31 : decode b_Csrs_restart 31 = .ok (.iconst 0, 1) := by decide +kernel
theorem d_Csrs_restart_32 : decode b_Csrs_restart 32 = .ok (.putfield 33, 3) := by decide +kernel
theorem d_Csrs_restart_35 : decode b_Csrs_restart 35 = .ok (.aload_n 0, 1) := by decide +kernel
theorem d_Csrs_restart_36 : decode b_Csrs_restart 36 = .ok (.iconst 0, 1) := by decide +kernel
theorem d_Csrs_restart_37 : decode b_Csrs_restart 37 = .ok (.putfield 36, 3) := by decide +kernel
theorem d_Csrs_restart_40 : decode b_Csrs_restart 40 = .ok (.aload_n 0, 1) := by decide +kernel
theorem d_Csrs_restart_41 : decode b_Csrs_restart 41 = .ok (.iconst 0, 1) := by decide +kernel
theorem d_Csrs_restart_42 : decode b_Csrs_restart 42 = .ok (.putfield 39, 3) := by decide +kernel
theorem d_Csrs_restart_45 : decode b_Csrs_restart 45 = .ok (.aload_n 0, 1) := by decide +kernel
theorem d_Csrs_restart_46 : decode b_Csrs_restart 46 = .ok (.iconst 0, 1) := by decide +kernel
theorem d_Csrs_restart_47 : decode b_Csrs_restart 47 = .ok (.putfield 42, 3) := by decide +kernel
theorem d_Csrs_restart_50 : decode b_Csrs_restart 50 = .ok (.aload_n 0, 1) := by decide +kernel
theorem d_Csrs_restart_51 : decode b_Csrs_restart 51 = .ok (.iconst 0, 1) := by decide +kernel
theorem d_Csrs_restart_52 : decode b_Csrs_restart 52 = .ok (.putfield 45, 3) := by decide +kernel
theorem d_Csrs_restart_55 : decode b_Csrs_restart 55 = .ok (.aload_n 0, 1) := by decide +kernel
theorem d_Csrs_restart_56 : decode b_Csrs_restart 56 = .ok (.iconst 0, 1) := by decide +kernel
theorem d_Csrs_restart_57 : decode b_Csrs_restart 57 = .ok (.putfield 48, 3) := by decide +kernel
theorem d_Csrs_restart_60 : decode b_Csrs_restart 60 = .ok (.aload_n 0, 1) := by decide +kernel
theorem d_Csrs_restart_61 : decode b_Csrs_restart 61 = .ok (.iconst 0, 1) := by decide +kernel
theorem d_Csrs_restart_62 : decode b_Csrs_restart 62 = .ok (.putfield 51, 3) := by decide +kernel
theorem d_Csrs_restart_65 : decode b_Csrs_restart 65 = .ok (.aload_n 0, 1) := by decide +kernel
theorem d_Csrs_restart_66 : decode b_Csrs_restart 66 = .ok (.iconst 0, 1) := by decide +kernel
theorem d_Csrs_restart_67 : decode b_Csrs_restart 67 = .ok (.putfield 54, 3) := by decide +kernel
theorem d_Csrs_restart_70 : decode b_Csrs_restart 70 = .ok (.aload_n 0, 1) := by decide +kernel
theorem d_Csrs_restart_71 : decode b_Csrs_restart 71 = .ok (.iconst 0, 1) := by decide +kernel
theorem d_Csrs_restart_72 : decode b_Csrs_restart 72 = .ok (.putfield 57, 3) := by decide +kernel
theorem d_Csrs_restart_75 : decode b_Csrs_restart 75 = .ok (.aload_n 0, 1) := by decide +kernel
theorem d_Csrs_restart_76 : decode b_Csrs_restart 76 = .ok (.iconst 0, 1) := by decide +kernel
theorem d_Csrs_restart_77 : decode b_Csrs_restart 77 = .ok (.putfield 60, 3) := by decide +kernel
theorem d_Csrs_restart_80 : decode b_Csrs_restart 80 = .ok (.return_, 1) := by decide +kernel
theorem d_Csrs_has_0 : decode b_Csrs_has 0 = .ok (.aload_n 0, 1) := by decide +kernel
theorem d_Csrs_has_1 : decode b_Csrs_has 1 = .ok (.getfield 15, 3) := by decide +kernel
theorem d_Csrs_has_4 : decode b_Csrs_has 4 = .ok (.iload_n 1, 1) := by decide +kernel
theorem d_Csrs_has_5 : decode b_Csrs_has 5 = .ok (.iand, 1) := by decide +kernel
theorem d_Csrs_has_6 : decode b_Csrs_has 6 = .ok (.ifCond .eq 7, 3) := by decide +kernel
theorem d_Csrs_has_9 : decode b_Csrs_has 9 = .ok (.iconst 1, 1) := by decide +kernel
theorem d_Csrs_has_10 : decode b_Csrs_has 10 = .ok (.goto 4, 3) := by decide +kernel
theorem d_Csrs_has_13 : decode b_Csrs_has 13 = .ok (.iconst 0, 1) := by decide +kernel
theorem d_Csrs_has_14 : decode b_Csrs_has 14 = .ok (.ireturn, 1) := by decide +kernel
theorem d_Csrs_firstOf_0 : decode b_Csrs_firstOf 0 = .ok (.iconst 0, 1) := by decide +kernel
theorem d_Csrs_firstOf_1 : decode b_Csrs_firstOf 1 = .ok (.istore_n 1, 1) := by decide +kernel
theorem d_Csrs_firstOf_2 : decode b_Csrs_firstOf 2 = .ok (.iload_n 1, 1) := by decide +kernel
theorem d_Csrs_firstOf_3 : decode b_Csrs_firstOf 3 = .ok (.getstatic 96, 3) := by decide +kernel
theorem d_Csrs_firstOf_6 : decode b_Csrs_firstOf 6 = .ok (.arraylength, 1) := by decide +kernel
theorem d_Csrs_firstOf_7 : decode b_Csrs_firstOf 7 = .ok (.if_icmp .ge 27, 3) := by decide +kernel
theorem d_Csrs_firstOf_10 : decode b_Csrs_firstOf 10 = .ok (.iload_n 0, 1) := by decide +kernel
theorem d_Csrs_firstOf_11 : decode b_Csrs_firstOf 11 = .ok (.getstatic 96, 3) := by decide +kernel
theorem d_Csrs_firstOf_14 : decode b_Csrs_firstOf 14 = .ok (.iload_n 1, 1) := by decide +kernel
theorem d_Csrs_firstOf_15 : decode b_Csrs_firstOf 15 = .ok (.iaload, 1) := by decide +kernel
theorem d_Csrs_firstOf_16 : decode b_Csrs_firstOf 16 = .ok (.ishr, 1) := by decide +kernel
theorem d_Csrs_firstOf_17 : decode b_Csrs_firstOf 17 = .ok (.iconst 1, 1) := by decide +kernel
theorem d_Csrs_firstOf_18 : decode b_Csrs_firstOf 18 = .ok (.iand, 1) := by decide +kernel
theorem d_Csrs_firstOf_19 : decode b_Csrs_firstOf 19 = .ok (.ifCond .eq 9, 3) := by decide +kernel
theorem d_Csrs_firstOf_22 : decode b_Csrs_firstOf 22 = .ok (.getstatic 96, 3) := by decide +kernel
theorem d_Csrs_firstOf_25 : decode b_Csrs_firstOf 25 = .ok (.iload_n 1, 1) := by decide +kernel
theorem d_Csrs_firstOf_26 : decode b_Csrs_firstOf 26 = .ok (.iaload, 1) := by decide +kernel
theorem d_Csrs_firstOf_27 : decode b_Csrs_firstOf 27 = .ok (.ireturn, 1) := by decide +kernel
theorem d_Csrs_firstOf_28 : decode b_Csrs_firstOf 28 = .ok (.iinc 1 1, 3) := by decide +kernel
theorem d_Csrs_firstOf_31 : decode b_Csrs_firstOf 31 = .ok (.goto (-29), 3) := by decide +kernel
theorem d_Csrs_firstOf_34 : decode b_Csrs_firstOf 34 = .ok (.iconst (-1), 1) := by decide +kernel
theorem d_Csrs_firstOf_35 : decode b_Csrs_firstOf 35 = .ok (.ireturn, 1) := by decide +kernel
theorem d_Csrs_dueInterrupt_0 : decode b_Csrs_dueInterrupt 0 = .ok (.aload_n 0, 1) := by decide +kernel
theorem d_Csrs_dueInterrupt_1 : decode b_Csrs_dueInterrupt 1 = .ok (.getfield 42, 3) := by decide +kernel
theorem d_Csrs_dueInterrupt_4 : decode b_Csrs_dueInterrupt 4 = .ok (.iload_n 2, 1) := by decide +kernel
theorem d_Csrs_dueInterrupt_5 : decode b_Csrs_dueInterrupt 5 = .ok (.ior, 1) := by decide +kernel
theorem d_Csrs_dueInterrupt_6 : decode b_Csrs_dueInterrupt 6 = .ok (.aload_n 0, 1) := by decide +kernel
theorem d_Csrs_dueInterrupt_7 : decode b_Csrs_dueInterrupt 7 = .ok (.getfield 24, 3) := by decide +kernel
theorem d_Csrs_dueInterrupt_10 : decode b_Csrs_dueInterrupt 10 = .ok (.iand, 1) := by decide +kernel
theorem d_Csrs_dueInterrupt_11 : decode b_Csrs_dueInterrupt 11 = .ok (.istore_n 3, 1) := by decide +kernel
theorem d_Csrs_dueInterrupt_12 : decode b_Csrs_dueInterrupt 12 = .ok (.iload_n 3, 1) := by decide +kernel
theorem d_Csrs_dueInterrupt_13 : decode b_Csrs_dueInterrupt 13 = .ok (.aload_n 0, 1) := by decide +kernel
theorem d_Csrs_dueInterrupt_14 : decode b_Csrs_dueInterrupt 14 = .ok (.getfield 21, 3) := by decide +kernel
theorem d_Csrs_dueInterrupt_17 : decode b_Csrs_dueInterrupt 17 = .ok (.iconst (-1), 1) := by decide +kernel
theorem d_Csrs_dueInterrupt_18 : decode b_Csrs_dueInterrupt 18 = .ok (.ixor, 1) := by decide +kernel
theorem d_Csrs_dueInterrupt_19 : decode b_Csrs_dueInterrupt 19 = .ok (.iand, 1) := by decide +kernel
theorem d_Csrs_dueInterrupt_20 : decode b_Csrs_dueInterrupt 20 = .ok (.istore 4, 2) := by decide +kernel
theorem d_Csrs_dueInterrupt_22 : decode b_Csrs_dueInterrupt 22 = .ok (.iload 4, 2) := by decide +kernel
theorem d_Csrs_dueInterrupt_24 : decode b_Csrs_dueInterrupt 24 = .ok (.ifCond .eq 23, 3) := by decide +kernel
theorem d_Csrs_dueInterrupt_27 : decode b_Csrs_dueInterrupt 27 = .ok (.iload_n 1, 1) := by decide +kernel
theorem d_Csrs_dueInterrupt_28 : decode b_Csrs_dueInterrupt 28 = .ok (.iconst 3, 1) := by decide +kernel
theorem d_Csrs_dueInterrupt_29 : decode b_Csrs_dueInterrupt 29 = .ok (.if_icmp .lt 12, 3) := by decide +kernel
theorem d_Csrs_dueInterrupt_32 : decode b_Csrs_dueInterrupt 32 = .ok (.aload_n 0, 1) := by decide +kernel
theorem d_Csrs_dueInterrupt_33 : decode b_Csrs_dueInterrupt 33 = .ok (.bipush 8, 2) := by decide +kernel
theorem d_Csrs_dueInterrupt_35 : decode b_Csrs_dueInterrupt 35 = .ok (.invokevirtual 90, 3) := by decide +kernel
theorem d_Csrs_dueInterrupt_38 : decode b_Csrs_dueInterrupt 38 = .ok (.ifCond .eq 9, 3) := by decide +kernel
theorem d_Csrs_dueInterrupt_41 : decode b_Csrs_dueInterrupt 41 = .ok (.iload 4, 2) := by decide +kernel
theorem d_Csrs_dueInterrupt_43 : decode b_Csrs_dueInterrupt 43 = .ok (.invokestatic 93, 3) := by decide +kernel
theorem d_Csrs_dueInterrupt_46 : decode b_Csrs_dueInterrupt 46 = .ok (.ireturn, 1) := by decide +kernel
theorem d_Csrs_dueInterrupt_47 : decode b_Csrs_dueInterrupt 47 = .ok (.iload_n 3, 1) := by decide +kernel
theorem d_Csrs_dueInterrupt_48 : decode b_Csrs_dueInterrupt 48 = .ok (.aload_n 0, 1) := by decide +kernel
theorem d_Csrs_dueInterrupt_49 : decode b_Csrs_dueInterrupt 49 = .ok (.getfield 21, 3) := by decide +kernel
theorem d_Csrs_dueInterrupt_52 : decode b_Csrs_dueInterrupt 52 = .ok (.iand, 1) := by decide +kernel
theorem d_Csrs_dueInterrupt_53 : decode b_Csrs_dueInterrupt 53 = .ok (.istore 5, 2) := by decide +kernel
theorem d_Csrs_dueInterrupt_55 : decode b_Csrs_dueInterrupt 55 = .ok (.iload 5, 2) := by decide +kernel
theorem d_Csrs_dueInterrupt_57 : decode b_Csrs_dueInterrupt 57 = .ok (.ifCond .eq 27, 3) := by decide +kernel
theorem d_Csrs_dueInterrupt_60 : decode b_Csrs_dueInterrupt 60 = .ok (.iload_n 1, 1) := by decide +kernel
theorem d_Csrs_dueInterrupt_61 : decode b_Csrs_dueInterrupt 61 = .ok (.iconst 1, 1) := by decide +kernel
theorem d_Csrs_dueInterrupt_62 : decode b_Csrs_dueInterrupt 62 = .ok (.if_icmp .lt 16, 3) := by decide +kernel
theorem d_Csrs_dueInterrupt_65 : decode b_Csrs_dueInterrupt 65 = .ok (.iload_n 1, 1) := by decide +kernel
theorem d_Csrs_dueInterrupt_66 : decode b_Csrs_dueInterrupt 66 = .ok (.iconst 1, 1) := by decide +kernel
theorem d_Csrs_dueInterrupt_67 : decode b_Csrs_dueInterrupt 67 = .ok (.if_icmp .ne 17, 3) := by decide +kernel
theorem d_Csrs_dueInterrupt_70 : decode b_Csrs_dueInterrupt 70 = .ok (.aload_n 0, 1) := by decide +kernel
theorem d_Csrs_dueInterrupt_71 : decode b_Csrs_dueInterrupt 71 = .ok (.iconst 2, 1) := by decide +kernel
theorem d_Csrs_dueInterrupt_72 : decode b_Csrs_dueInterrupt 72 = .ok (.invokevirtual 90, 3) := by decide +kernel
theorem d_Csrs_dueInterrupt_75 : decode b_Csrs_dueInterrupt 75 = .ok (.ifCond .eq 9, 3) := by decide +kernel
theorem d_Csrs_dueInterrupt_78 : decode b_Csrs_dueInterrupt 78 = .ok (.iload 5, 2) := by decide +kernel
theorem d_Csrs_dueInterrupt_80 : decode b_Csrs_dueInterrupt 80 = .ok (.invokestatic 93, 3) := by decide +kernel
theorem d_Csrs_dueInterrupt_83 : decode b_Csrs_dueInterrupt 83 = .ok (.ireturn, 1) := by decide +kernel
theorem d_Csrs_dueInterrupt_84 : decode b_Csrs_dueInterrupt 84 = .ok (.iconst (-1), 1) := by decide +kernel
theorem d_Csrs_dueInterrupt_85 : decode b_Csrs_dueInterrupt 85 = .ok (.ireturn, 1) := by decide +kernel
theorem d_Csrs_handsDownInterrupt_0 : decode b_Csrs_handsDownInterrupt 0 = .ok (.aload_n 0, 1) := by decide +kernel
theorem d_Csrs_handsDownInterrupt_1 : decode b_Csrs_handsDownInterrupt 1 = .ok (.getfield 21, 3) := by decide +kernel
theorem d_Csrs_handsDownInterrupt_4 : decode b_Csrs_handsDownInterrupt 4 = .ok (.iload_n 1, 1) := by decide +kernel
theorem d_Csrs_handsDownInterrupt_5 : decode b_Csrs_handsDownInterrupt 5 = .ok (.ishr, 1) := by decide +kernel
theorem d_Csrs_handsDownInterrupt_6 : decode b_Csrs_handsDownInterrupt 6 = .ok (.iconst 1, 1) := by decide +kernel
theorem d_Csrs_handsDownInterrupt_7 : decode b_Csrs_handsDownInterrupt 7 = .ok (.iand, 1) := by decide +kernel
theorem d_Csrs_handsDownInterrupt_8 : decode b_Csrs_handsDownInterrupt 8 = .ok (.ifCond .eq 7, 3) := by decide +kernel
theorem d_Csrs_handsDownInterrupt_11 : decode b_Csrs_handsDownInterrupt 11 = .ok (.iconst 1, 1) := by decide +kernel
theorem d_Csrs_handsDownInterrupt_12 : decode b_Csrs_handsDownInterrupt 12 = .ok (.goto 4, 3) := by decide +kernel
theorem d_Csrs_handsDownInterrupt_15 : decode b_Csrs_handsDownInterrupt 15 = .ok (.iconst 0, 1) := by decide +kernel
theorem d_Csrs_handsDownInterrupt_16 : decode b_Csrs_handsDownInterrupt 16 = .ok (.ireturn, 1) := by decide +kernel
theorem d_Csrs_enterSupervisor_0 : decode b_Csrs_enterSupervisor 0 = .ok (.aload_n 0, 1) := by decide +kernel
theorem d_Csrs_enterSupervisor_1 : decode b_Csrs_enterSupervisor 1 = .ok (.iload_n 1, 1) := by decide +kernel
theorem d_Csrs_enterSupervisor_2 : decode b_Csrs_enterSupervisor 2 = .ok (.putfield 48, 3) := by decide +kernel
theorem d_Csrs_enterSupervisor_5 : decode b_Csrs_enterSupervisor 5 = .ok (.aload_n 0, 1) := by decide +kernel
theorem d_Csrs_enterSupervisor_6 : decode b_Csrs_enterSupervisor 6 = .ok (.iload_n 2, 1) := by decide +kernel
theorem d_Csrs_enterSupervisor_7 : decode b_Csrs_enterSupervisor 7 = .ok (.putfield 54, 3) := by decide +kernel
theorem d_Csrs_enterSupervisor_10 : decode b_Csrs_enterSupervisor 10 = .ok (.aload_n 0, 1) := by decide +kernel
theorem d_Csrs_enterSupervisor_11 : decode b_Csrs_enterSupervisor 11 = .ok (.iload_n 3, 1) := by decide +kernel
theorem d_Csrs_enterSupervisor_12 : decode b_Csrs_enterSupervisor 12 = .ok (.putfield 57, 3) := by decide +kernel
theorem d_Csrs_enterSupervisor_15 : decode b_Csrs_enterSupervisor 15 = .ok (.aload_n 0, 1) := by decide +kernel
theorem d_Csrs_enterSupervisor_16 : decode b_Csrs_enterSupervisor 16 = .ok (.iconst 2, 1) := by decide +kernel
theorem d_Csrs_enterSupervisor_17 : decode b_Csrs_enterSupervisor 17 = .ok (.invokevirtual 90, 3) := by decide +kernel
theorem d_Csrs_enterSupervisor_20 : decode b_Csrs_enterSupervisor 20 = .ok (.ifCond .eq 8, 3) := by decide +kernel
theorem d_Csrs_enterSupervisor_23 : decode b_Csrs_enterSupervisor 23 = .ok (.bipush 32, 2) := by decide +kernel
theorem d_Csrs_enterSupervisor_25 : decode b_Csrs_enterSupervisor 25 = .ok (.goto 4, 3) := by decide +kernel
theorem d_Csrs_enterSupervisor_28 : decode b_Csrs_enterSupervisor 28 = .ok (.iconst 0, 1) := by decide +kernel
theorem d_Csrs_enterSupervisor_29 : decode b_Csrs_enterSupervisor 29 = .ok (.istore 5, 2) := by decide +kernel
theorem d_Csrs_enterSupervisor_31 : decode b_Csrs_enterSupervisor 31 = .ok (.iload 4, 2) := by decide +kernel
theorem d_Csrs_enterSupervisor_33 : decode b_Csrs_enterSupervisor 33 = .ok (.iconst 1, 1) := by decide +kernel
theorem d_Csrs_enterSupervisor_34 : decode b_Csrs_enterSupervisor 34 = .ok (.if_icmp .ne 9, 3) := by decide +kernel
theorem d_Csrs_enterSupervisor_37 : decode b_Csrs_enterSupervisor 37 = .ok (.sipush 256, 3) := by decide +kernel
theorem d_Csrs_enterSupervisor_40 : decode b_Csrs_enterSupervisor 40 = .ok (.goto 4, 3) := by decide +kernel
theorem d_Csrs_enterSupervisor_43 : decode b_Csrs_enterSupervisor 43 = .ok (.iconst 0, 1) := by decide +kernel
theorem d_Csrs_enterSupervisor_44 : decode b_Csrs_enterSupervisor 44 = .ok (.istore 6, 2) := by decide +kernel
theorem d_Csrs_enterSupervisor_46 : decode b_Csrs_enterSupervisor 46 = .ok (.aload_n 0, 1) := by decide +kernel
theorem d_Csrs_enterSupervisor_47 : decode b_Csrs_enterSupervisor 47 = .ok (.aload_n 0, 1) := by decide +kernel
theorem d_Csrs_enterSupervisor_48 : decode b_Csrs_enterSupervisor 48 = .ok (.getfield 15, 3) := by decide +kernel
theorem d_Csrs_enterSupervisor_51 : decode b_Csrs_enterSupervisor 51 = .ok (.sipush (-291), 3) := by decide +kernel
theorem d_Csrs_enterSupervisor_54 : decode b_Csrs_enterSupervisor 54 = .ok (.iand, 1) := by decide +kernel
theorem d_Csrs_enterSupervisor_55 : decode b_Csrs_enterSupervisor 55 = .ok (.iload 5, 2) := by decide +kernel
theorem d_Csrs_enterSupervisor_57 : decode b_Csrs_enterSupervisor 57 = .ok (.ior, 1) := by decide +kernel
theorem d_Csrs_enterSupervisor_58 : decode b_Csrs_enterSupervisor 58 = .ok (.iload 6, 2) := by decide +kernel
theorem d_Csrs_enterSupervisor_60 : decode b_Csrs_enterSupervisor 60 = .ok (.ior, 1) := by decide +kernel
theorem d_Csrs_enterSupervisor_61 : decode b_Csrs_enterSupervisor 61 = .ok (.putfield 15, 3) := by decide +kernel
theorem d_Csrs_enterSupervisor_64 : decode b_Csrs_enterSupervisor 64 = .ok (.aload_n 0, 1) := by decide +kernel
theorem d_Csrs_enterSupervisor_65 : decode b_Csrs_enterSupervisor 65 = .ok (.getfield 45, 3) := by decide +kernel
theorem d_Csrs_enterSupervisor_68 : decode b_Csrs_enterSupervisor 68 = .ok (.ireturn, 1) := by decide +kernel
theorem d_Csrs_enterMachine_0 : decode b_Csrs_enterMachine 0 = .ok (.aload_n 0, 1) := by decide +kernel
theorem d_Csrs_enterMachine_1 : decode b_Csrs_enterMachine 1 = .ok (.iload_n 1, 1) := by decide +kernel
theorem d_Csrs_enterMachine_2 : decode b_Csrs_enterMachine 2 = .ok (.putfield 30, 3) := by decide +kernel
theorem d_Csrs_enterMachine_5 : decode b_Csrs_enterMachine 5 = .ok (.aload_n 0, 1) := by decide +kernel
theorem d_Csrs_enterMachine_6 : decode b_Csrs_enterMachine 6 = .ok (.iload_n 2, 1) := by decide +kernel
theorem d_Csrs_enterMachine_7 : decode b_Csrs_enterMachine 7 = .ok (.putfield 36, 3) := by decide +kernel
theorem d_Csrs_enterMachine_10 : decode b_Csrs_enterMachine 10 = .ok (.aload_n 0, 1) := by decide +kernel
theorem d_Csrs_enterMachine_11 : decode b_Csrs_enterMachine 11 = .ok (.iload_n 3, 1) := by decide +kernel
theorem d_Csrs_enterMachine_12 : decode b_Csrs_enterMachine 12 = .ok (.putfield 39, 3) := by decide +kernel
theorem d_Csrs_enterMachine_15 : decode b_Csrs_enterMachine 15 = .ok (.aload_n 0, 1) := by decide +kernel
theorem d_Csrs_enterMachine_16 : decode b_Csrs_enterMachine 16 = .ok (.bipush 8, 2) := by decide +kernel
theorem d_Csrs_enterMachine_18 : decode b_Csrs_enterMachine 18 = .ok (.invokevirtual 90, 3) := by decide +kernel
theorem d_Csrs_enterMachine_21 : decode b_Csrs_enterMachine 21 = .ok (.ifCond .eq 9, 3) := by decide +kernel
theorem d_Csrs_enterMachine_24 : decode b_Csrs_enterMachine 24 = .ok (.sipush 128, 3) := by decide +kernel
theorem d_Csrs_enterMachine_27 : decode b_Csrs_enterMachine 27 = .ok (.goto 4, 3) := by decide +kernel
theorem d_Csrs_enterMachine_30 : decode b_Csrs_enterMachine 30 = .ok (.iconst 0, 1) := by decide +kernel
theorem d_Csrs_enterMachine_31 : decode b_Csrs_enterMachine 31 = .ok (.istore 5, 2) := by decide +kernel
theorem d_Csrs_enterMachine_33 : decode b_Csrs_enterMachine 33 = .ok (.aload_n 0, 1) := by decide +kernel
theorem d_Csrs_enterMachine_34 : decode b_Csrs_enterMachine 34 = .ok (.aload_n 0, 1) := by decide +kernel
theorem d_Csrs_enterMachine_35 : decode b_Csrs_enterMachine 35 = .ok (.getfield 15, 3) := by decide +kernel
theorem d_Csrs_enterMachine_38 : decode b_Csrs_enterMachine 38 = .ok (.sipush (-6281), 3) := by decide +kernel
theorem d_Csrs_enterMachine_41 : decode b_Csrs_enterMachine 41 = .ok (.iand, 1) := by decide +kernel
theorem d_Csrs_enterMachine_42 : decode b_Csrs_enterMachine 42 = .ok (.iload 5, 2) := by decide +kernel
theorem d_Csrs_enterMachine_44 : decode b_Csrs_enterMachine 44 = .ok (.ior, 1) := by decide +kernel
theorem d_Csrs_enterMachine_45 : decode b_Csrs_enterMachine 45 = .ok (.iload 4, 2) := by decide +kernel
theorem d_Csrs_enterMachine_47 : decode b_Csrs_enterMachine 47 = .ok (.bipush 11, 2) := by decide +kernel
theorem d_Csrs_enterMachine_49 : decode b_Csrs_enterMachine 49 = .ok (.ishl, 1) := by decide +kernel
theorem d_Csrs_enterMachine_50 : decode b_Csrs_enterMachine 50 = .ok (.ior, 1) := by decide +kernel
theorem d_Csrs_enterMachine_51 : decode b_Csrs_enterMachine 51 = .ok (.putfield 15, 3) := by decide +kernel
theorem d_Csrs_enterMachine_54 : decode b_Csrs_enterMachine 54 = .ok (.aload_n 0, 1) := by decide +kernel
theorem d_Csrs_enterMachine_55 : decode b_Csrs_enterMachine 55 = .ok (.getfield 27, 3) := by decide +kernel
theorem d_Csrs_enterMachine_58 : decode b_Csrs_enterMachine 58 = .ok (.ireturn, 1) := by decide +kernel
theorem d_Csrs_levelBefore_0 : decode b_Csrs_levelBefore 0 = .ok (.aload_n 0, 1) := by decide +kernel
theorem d_Csrs_levelBefore_1 : decode b_Csrs_levelBefore 1 = .ok (.getfield 15, 3) := by decide +kernel
theorem d_Csrs_levelBefore_4 : decode b_Csrs_levelBefore 4 = .ok (.sipush 6144, 3) := by decide +kernel
theorem d_Csrs_levelBefore_7 : decode b_Csrs_levelBefore 7 = .ok (.iand, 1) := by decide +kernel
theorem d_Csrs_levelBefore_8 : decode b_Csrs_levelBefore 8 = .ok (.bipush 11, 2) := by decide +kernel
theorem d_Csrs_levelBefore_10 : decode b_Csrs_levelBefore 10 = .ok (.ishr, 1) := by decide +kernel
theorem d_Csrs_levelBefore_11 : decode b_Csrs_levelBefore 11 = .ok (.ireturn, 1) := by decide +kernel
theorem d_Csrs_dataLevel_0 : decode b_Csrs_dataLevel 0 = .ok (.iload_n 1, 1) := by decide +kernel
theorem d_Csrs_dataLevel_1 : decode b_Csrs_dataLevel 1 = .ok (.iconst 3, 1) := by decide +kernel
theorem d_Csrs_dataLevel_2 : decode b_Csrs_dataLevel 2 = .ok (.if_icmp .ne 19, 3) := by decide +kernel
theorem d_Csrs_dataLevel_5 : decode b_Csrs_dataLevel 5 = .ok (.aload_n 0, 1) := by decide +kernel
theorem d_Csrs_dataLevel_6 : decode b_Csrs_dataLevel 6 = .ok (.ldc 106, 2) := by decide +kernel
theorem d_Csrs_dataLevel_8 : decode b_Csrs_dataLevel 8 = .ok (.invokevirtual 90, 3) := by decide +kernel
theorem d_Csrs_dataLevel_11 : decode b_Csrs_dataLevel 11 = .ok (.ifCond .eq 10, 3) := by decide +kernel
theorem d_Csrs_dataLevel_14 : decode b_Csrs_dataLevel 14 = .ok (.aload_n 0, 1) := by decide +kernel
theorem d_Csrs_dataLevel_15 : decode b_Csrs_dataLevel 15 = .ok (.invokevirtual 101, 3) := by decide +kernel
theorem d_Csrs_dataLevel_18 : decode b_Csrs_dataLevel 18 = .ok (.goto 4, 3) := by decide +kernel
theorem d_Csrs_dataLevel_21 : decode b_Csrs_dataLevel 21 = .ok (.iload_n 1, 1) := by decide +kernel
theorem d_Csrs_dataLevel_22 : decode b_Csrs_dataLevel 22 = .ok (.ireturn, 1) := by decide +kernel
theorem d_Csrs_hasPages_0 : decode b_Csrs_hasPages 0 = .ok (.aload_n 0, 1) := by decide +kernel
theorem d_Csrs_hasPages_1 : decode b_Csrs_hasPages 1 = .ok (.getfield 60, 3) := by decide +kernel
theorem d_Csrs_hasPages_4 : decode b_Csrs_hasPages 4 = .ok (.ifCond .ge 7, 3) := by decide +kernel
theorem d_Csrs_hasPages_7 : decode b_Csrs_hasPages 7 = .ok (.iconst 1, 1) := by decide +kernel
theorem d_Csrs_hasPages_8 : decode b_Csrs_hasPages 8 = .ok (.goto 4, 3) := by decide +kernel
theorem d_Csrs_hasPages_11 : decode b_Csrs_hasPages 11 = .ok (.iconst 0, 1) := by decide +kernel
theorem d_Csrs_hasPages_12 : decode b_Csrs_hasPages 12 = .ok (.ireturn, 1) := by decide +kernel
theorem d_Csrs_rootPage_0 : decode b_Csrs_rootPage 0 = .ok (.aload_n 0, 1) := by decide +kernel
theorem d_Csrs_rootPage_1 : decode b_Csrs_rootPage 1 = .ok (.getfield 60, 3) := by decide +kernel
theorem d_Csrs_rootPage_4 : decode b_Csrs_rootPage 4 = .ok (.ldc 107, 2) := by decide +kernel
theorem d_Csrs_rootPage_6 : decode b_Csrs_rootPage 6 = .ok (.iand, 1) := by decide +kernel
theorem d_Csrs_rootPage_7 : decode b_Csrs_rootPage 7 = .ok (.ireturn, 1) := by decide +kernel
theorem d_Csrs_leaveMachine_0 : decode b_Csrs_leaveMachine 0 = .ok (.aload_n 0, 1) := by decide +kernel
theorem d_Csrs_leaveMachine_1 : decode b_Csrs_leaveMachine 1 = .ok (.invokevirtual 101, 3) := by decide +kernel
theorem d_Csrs_leaveMachine_4 : decode b_Csrs_leaveMachine 4 = .ok (.istore_n 1, 1) := by decide +kernel
theorem d_Csrs_leaveMachine_5 : decode b_Csrs_leaveMachine 5 = .ok (.aload_n 0, 1) := by decide +kernel
theorem d_Csrs_leaveMachine_6 : decode b_Csrs_leaveMachine 6 = .ok (.sipush 128, 3) := by decide +kernel
theorem d_Csrs_leaveMachine_9 : decode b_Csrs_leaveMachine 9 = .ok (.invokevirtual 90, 3) := by decide +kernel
theorem d_Csrs_leaveMachine_12 : decode b_Csrs_leaveMachine 12 = .ok (.ifCond .eq 8, 3) := by decide +kernel
theorem d_Csrs_leaveMachine_15 : decode b_Csrs_leaveMachine 15 = .ok (.bipush 8, 2) := by decide +kernel
theorem d_Csrs_leaveMachine_17 : decode b_Csrs_leaveMachine 17 = .ok (.goto 4, 3) := by decide +kernel
theorem d_Csrs_leaveMachine_20 : decode b_Csrs_leaveMachine 20 = .ok (.iconst 0, 1) := by decide +kernel
theorem d_Csrs_leaveMachine_21 : decode b_Csrs_leaveMachine 21 = .ok (.istore_n 2, 1) := by decide +kernel
theorem d_Csrs_leaveMachine_22 : decode b_Csrs_leaveMachine 22 = .ok (.iload_n 1, 1) := by decide +kernel
theorem d_Csrs_leaveMachine_23 : decode b_Csrs_leaveMachine 23 = .ok (.iconst 3, 1) := by decide +kernel
theorem d_Csrs_leaveMachine_24 : decode b_Csrs_leaveMachine 24 = .ok (.if_icmp .ne 9, 3) := by decide +kernel
theorem d_Csrs_leaveMachine_27 : decode b_Csrs_leaveMachine 27 = .ok (.sipush 6152, 3) := by decide +kernel
theorem d_Csrs_leaveMachine_30 : decode b_Csrs_leaveMachine 30 = .ok (.goto 5, 3) := by decide +kernel
theorem d_Csrs_leaveMachine_33 : decode b_Csrs_leaveMachine 33 = .ok (.ldc 105, 2) := by decide +kernel
theorem d_Csrs_leaveMachine_35 : decode b_Csrs_leaveMachine 35 = .ok (.istore_n 3, 1) := by decide +kernel
theorem d_Csrs_leaveMachine_36 : decode b_Csrs_leaveMachine 36 = .ok (.aload_n 0, 1) := by decide +kernel
theorem d_Csrs_leaveMachine_37 : decode b_Csrs_leaveMachine 37 = .ok (.aload_n 0, 1) := by decide +kernel
theorem d_Csrs_leaveMachine_38 : decode b_Csrs_leaveMachine 38 = .ok (.getfield 15, 3) := by decide +kernel
theorem d_Csrs_leaveMachine_41 : decode b_Csrs_leaveMachine 41 = .ok (.iload_n 3, 1) := by decide +kernel
theorem d_Csrs_leaveMachine_42 : decode b_Csrs_leaveMachine 42 = .ok (.iconst (-1), 1) := by decide +kernel
theorem d_Csrs_leaveMachine_43 : decode b_Csrs_leaveMachine 43 = .ok (.ixor, 1) := by decide +kernel
theorem d_Csrs_leaveMachine_44 : decode b_Csrs_leaveMachine 44 = .ok (.iand, 1) := by decide +kernel
theorem d_Csrs_leaveMachine_45 : decode b_Csrs_leaveMachine 45 = .ok (.sipush 128, 3) := by decide +kernel
theorem d_Csrs_leaveMachine_48 : decode b_Csrs_leaveMachine 48 = .ok (.ior, 1) := by decide +kernel
theorem d_Csrs_leaveMachine_49 : decode b_Csrs_leaveMachine 49 = .ok (.iload_n 2, 1) := by decide +kernel
theorem d_Csrs_leaveMachine_50 : decode b_Csrs_leaveMachine 50 = .ok (.ior, 1) := by decide +kernel
theorem d_Csrs_leaveMachine_51 : decode b_Csrs_leaveMachine 51 = .ok (.putfield 15, 3) := by decide +kernel
theorem d_Csrs_leaveMachine_54 : decode b_Csrs_leaveMachine 54 = .ok (.iload_n 1, 1) := by decide +kernel
theorem d_Csrs_leaveMachine_55 : decode b_Csrs_leaveMachine 55 = .ok (.ireturn, 1) := by decide +kernel
theorem d_Csrs_leaveSupervisor_0 : decode b_Csrs_leaveSupervisor 0 = .ok (.aload_n 0, 1) := by decide +kernel
theorem d_Csrs_leaveSupervisor_1 : decode b_Csrs_leaveSupervisor 1 = .ok (.sipush 256, 3) := by decide +kernel
theorem d_Csrs_leaveSupervisor_4 : decode b_Csrs_leaveSupervisor 4 = .ok (.invokevirtual 90, 3) := by decide +kernel
theorem d_Csrs_leaveSupervisor_7 : decode b_Csrs_leaveSupervisor 7 = .ok (.ifCond .eq 7, 3) := by decide +kernel
theorem d_Csrs_leaveSupervisor_10 : decode b_Csrs_leaveSupervisor 10 = .ok (.iconst 1, 1) := by decide +kernel
theorem d_Csrs_leaveSupervisor_11 : decode b_Csrs_leaveSupervisor 11 = .ok (.goto 4, 3) := by decide +kernel
theorem d_Csrs_leaveSupervisor_14 : decode b_Csrs_leaveSupervisor 14 = .ok (.iconst 0, 1) := by decide +kernel
theorem d_Csrs_leaveSupervisor_15 : decode b_Csrs_leaveSupervisor 15 = .ok (.istore_n 1, 1) := by decide +kernel
theorem d_Csrs_leaveSupervisor_16 : decode b_Csrs_leaveSupervisor 16 = .ok (.aload_n 0, 1) := by decide +kernel
theorem d_Csrs_leaveSupervisor_17 : decode b_Csrs_leaveSupervisor 17 = .ok (.bipush 32, 2) := by decide +kernel
theorem d_Csrs_leaveSupervisor_19 : decode b_Csrs_leaveSupervisor 19 = .ok (.invokevirtual 90, 3) := by decide +kernel
theorem d_Csrs_leaveSupervisor_22 : decode b_Csrs_leaveSupervisor 22 = .ok (.ifCond .eq 7, 3) := by decide +kernel
theorem d_Csrs_leaveSupervisor_25 : decode b_Csrs_leaveSupervisor 25 = .ok (.iconst 2, 1) := by decide +kernel
theorem d_Csrs_leaveSupervisor_26 : decode b_Csrs_leaveSupervisor 26 = .ok (.goto 4, 3) := by decide +kernel
theorem d_Csrs_leaveSupervisor_29 : decode b_Csrs_leaveSupervisor 29 = .ok (.iconst 0, 1) := by decide +kernel
theorem d_Csrs_leaveSupervisor_30 : decode b_Csrs_leaveSupervisor 30 = .ok (.istore_n 2, 1) := by decide +kernel
theorem d_Csrs_leaveSupervisor_31 : decode b_Csrs_leaveSupervisor 31 = .ok (.aload_n 0, 1) := by decide +kernel
theorem d_Csrs_leaveSupervisor_32 : decode b_Csrs_leaveSupervisor 32 = .ok (.aload_n 0, 1) := by decide +kernel
theorem d_Csrs_leaveSupervisor_33 : decode b_Csrs_leaveSupervisor 33 = .ok (.getfield 15, 3) := by decide +kernel
theorem d_Csrs_leaveSupervisor_36 : decode b_Csrs_leaveSupervisor 36 = .ok (.ldc 100, 2) := by decide +kernel
theorem d_Csrs_leaveSupervisor_38 : decode b_Csrs_leaveSupervisor 38 = .ok (.iand, 1) := by decide +kernel
theorem d_Csrs_leaveSupervisor_39 : decode b_Csrs_leaveSupervisor 39 = .ok (.bipush 32, 2) := by decide +kernel
theorem d_Csrs_leaveSupervisor_41 : decode b_Csrs_leaveSupervisor 41 = .ok (.ior, 1) := by decide +kernel
theorem d_Csrs_leaveSupervisor_42 : decode b_Csrs_leaveSupervisor 42 = .ok (.iload_n 2, 1) := by decide +kernel
theorem d_Csrs_leaveSupervisor_43 : decode b_Csrs_leaveSupervisor 43 = .ok (.ior, 1) := by decide +kernel
theorem d_Csrs_leaveSupervisor_44 : decode b_Csrs_leaveSupervisor 44 = .ok (.putfield 15, 3) := by decide +kernel
theorem d_Csrs_leaveSupervisor_47 : decode b_Csrs_leaveSupervisor 47 = .ok (.iload_n 1, 1) := by decide +kernel
theorem d_Csrs_leaveSupervisor_48 : decode b_Csrs_leaveSupervisor 48 = .ok (.ireturn, 1) := by decide +kernel
theorem d_Csrs_isTold_0 : decode b_Csrs_isTold 0 = .ok (.iload_n 0, 1) := by decide +kernel
theorem d_Csrs_isTold_1 : decode b_Csrs_isTold 1 = .ok (.lookupswitch 205 #[(256, 203), (260, 203), (261, 203), (320, 203), (321, 203), (322, 203), (323, 203), (324, 203), (384, 203), (768, 203), (769, 203), (770, 203), (771, 203), (772, 203), (773, 203), (832, 203), (833, 203), (834, 203), (835, 203), (836, 203), (3857, 203), (3858, 203), (3859, 203), (3860, 203)], 203) := by decide +kernel
theorem d_Csrs_isTold_204 : decode b_Csrs_isTold 204 = .ok (.iconst 1, 1) := by decide +kernel
theorem d_Csrs_isTold_205 : decode b_Csrs_isTold 205 = .ok (.ireturn, 1) := by decide +kernel
theorem d_Csrs_isTold_206 : decode b_Csrs_isTold 206 = .ok (.iconst 0, 1) := by decide +kernel
theorem d_Csrs_isTold_207 : decode b_Csrs_isTold 207 = .ok (.ireturn, 1) := by decide +kernel
theorem d_Csrs_isReadOnly_0 : decode b_Csrs_isReadOnly 0 = .ok (.iload_n 0, 1) := by decide +kernel
theorem d_Csrs_isReadOnly_1 : decode b_Csrs_isReadOnly 1 = .ok (.sipush 3072, 3) := by decide +kernel
theorem d_Csrs_isReadOnly_4 : decode b_Csrs_isReadOnly 4 = .ok (.iand, 1) := by decide +kernel
theorem d_Csrs_isReadOnly_5 : decode b_Csrs_isReadOnly 5 = .ok (.sipush 3072, 3) := by decide +kernel
theorem d_Csrs_isReadOnly_8 : decode b_Csrs_isReadOnly 8 = .ok (.if_icmp .ne 7, 3) := by decide +kernel
theorem d_Csrs_isReadOnly_11 : decode b_Csrs_isReadOnly 11 = .ok (.iconst 1, 1) := by decide +kernel
theorem d_Csrs_isReadOnly_12 : decode b_Csrs_isReadOnly 12 = .ok (.goto 4, 3) := by decide +kernel
theorem d_Csrs_isReadOnly_15 : decode b_Csrs_isReadOnly 15 = .ok (.iconst 0, 1) := by decide +kernel
theorem d_Csrs_isReadOnly_16 : decode b_Csrs_isReadOnly 16 = .ok (.ireturn, 1) := by decide +kernel
theorem d_Csrs_isAllowed_0 : decode b_Csrs_isAllowed 0 = .ok (.iload_n 0, 1) := by decide +kernel
theorem d_Csrs_isAllowed_1 : decode b_Csrs_isAllowed 1 = .ok (.invokestatic 63, 3) := by decide +kernel
theorem d_Csrs_isAllowed_4 : decode b_Csrs_isAllowed 4 = .ok (.ifCond .eq 28, 3) := by decide +kernel
theorem d_Csrs_isAllowed_7 : decode b_Csrs_isAllowed 7 = .ok (.iload_n 1, 1) := by decide +kernel
theorem d_Csrs_isAllowed_8 : decode b_Csrs_isAllowed 8 = .ok (.iload_n 0, 1) := by decide +kernel
theorem d_Csrs_isAllowed_9 : decode b_Csrs_isAllowed 9 = .ok (.bipush 8, 2) := by decide +kernel
theorem d_Csrs_isAllowed_11 : decode b_Csrs_isAllowed 11 = .ok (.ishr, 1) := by decide +kernel
theorem d_Csrs_isAllowed_12 : decode b_Csrs_isAllowed 12 = .ok (.iconst 3, 1) := by decide +kernel
theorem d_Csrs_isAllowed_13 : decode b_Csrs_isAllowed 13 = .ok (.iand, 1) := by decide +kernel
theorem d_Csrs_isAllowed_14 : decode b_Csrs_isAllowed 14 = .ok (.if_icmp .lt 18, 3) := by decide +kernel
theorem d_Csrs_isAllowed_17 : decode b_Csrs_isAllowed 17 = .ok (.iload_n 2, 1) := by decide +kernel
theorem d_Csrs_isAllowed_18 : decode b_Csrs_isAllowed 18 = .ok (.ifCond .eq 10, 3) := by decide +kernel
theorem d_Csrs_isAllowed_21 : decode b_Csrs_isAllowed 21 = .ok (.iload_n 0, 1) := by decide +kernel
theorem d_Csrs_isAllowed_22 : decode b_Csrs_isAllowed 22 = .ok (.invokestatic 67, 3) := by decide +kernel
theorem d_Csrs_isAllowed_25 : decode b_Csrs_isAllowed 25 = .ok (.ifCond .ne 7, 3) := by decide +kernel
theorem d_Csrs_isAllowed_28 : decode b_Csrs_isAllowed 28 = .ok (.iconst 1, 1) := by decide +kernel
theorem d_Csrs_isAllowed_29 : decode b_Csrs_isAllowed 29 = .ok (.goto 4, 3) := by decide +kernel
theorem d_Csrs_isAllowed_32 : decode b_Csrs_isAllowed 32 = .ok (.iconst 0, 1) := by decide +kernel
theorem d_Csrs_isAllowed_33 : decode b_Csrs_isAllowed 33 = .ok (.ireturn, 1) := by decide +kernel
theorem d_Csrs_read_0 : decode b_Csrs_read 0 = .ok (.iload_n 1, 1) := by decide +kernel
theorem d_Csrs_read_1 : decode b_Csrs_read 1 = .ok (.lookupswitch 299 #[(256, 179), (260, 187), (261, 197), (320, 202), (321, 207), (322, 212), (323, 217), (324, 222), (384, 234), (768, 239), (769, 244), (770, 247), (771, 252), (772, 257), (773, 262), (832, 267), (833, 272), (834, 277), (835, 282), (836, 287), (3860, 294)], 179) := by decide +kernel
theorem d_Csrs_read_180 : decode b_Csrs_read 180 = .ok (.aload_n 0, 1) := by decide +kernel
theorem d_Csrs_read_181 : decode b_Csrs_read 181 = .ok (.getfield 15, 3) := by decide +kernel
theorem d_Csrs_read_184 : decode b_Csrs_read 184 = .ok (.ldc 70, 2) := by decide +kernel
theorem d_Csrs_read_186 : decode b_Csrs_read 186 = .ok (.iand, 1) := by decide +kernel
theorem d_Csrs_read_187 : decode b_Csrs_read 187 = .ok (.ireturn, 1) := by decide +kernel
theorem d_Csrs_read_188 : decode b_Csrs_read 188 = .ok (.aload_n 0, 1) := by decide +kernel
theorem d_Csrs_read_189 : decode b_Csrs_read 189 = .ok (.getfield 24, 3) := by decide +kernel
theorem d_Csrs_read_192 : decode b_Csrs_read 192 = .ok (.aload_n 0, 1) := by decide +kernel
theorem d_Csrs_read_193 : decode b_Csrs_read 193 = .ok (.getfield 21, 3) := by decide +kernel
theorem d_Csrs_read_196 : decode b_Csrs_read 196 = .ok (.iand, 1) := by decide +kernel
theorem d_Csrs_read_197 : decode b_Csrs_read 197 = .ok (.ireturn, 1) := by decide +kernel
theorem d_Csrs_read_198 : decode b_Csrs_read 198 = .ok (.aload_n 0, 1) := by decide +kernel
theorem d_Csrs_read_199 : decode b_Csrs_read 199 = .ok (.getfield 45, 3) := by decide +kernel
theorem d_Csrs_read_202 : decode b_Csrs_read 202 = .ok (.ireturn, 1) := by decide +kernel
theorem d_Csrs_read_203 : decode b_Csrs_read 203 = .ok (.aload_n 0, 1) := by decide +kernel
theorem d_Csrs_read_204 : decode b_Csrs_read 204 = .ok (.getfield 51, 3) := by decide +kernel
theorem d_Csrs_read_207 : decode b_Csrs_read 207 = .ok (.ireturn, 1) := by decide +kernel
theorem d_Csrs_read_208 : decode b_Csrs_read 208 = .ok (.aload_n 0, 1) := by decide +kernel
theorem d_Csrs_read_209 : decode b_Csrs_read 209 = .ok (.getfield 48, 3) := by decide +kernel
theorem d_Csrs_read_212 : decode b_Csrs_read 212 = .ok (.ireturn, 1) := by decide +kernel
theorem d_Csrs_read_213 : decode b_Csrs_read 213 = .ok (.aload_n 0, 1) := by decide +kernel
theorem d_Csrs_read_214 : decode b_Csrs_read 214 = .ok (.getfield 54, 3) := by decide +kernel
theorem d_Csrs_read_217 : decode b_Csrs_read 217 = .ok (.ireturn, 1) := by decide +kernel
theorem d_Csrs_read_218 : decode b_Csrs_read 218 = .ok (.aload_n 0, 1) := by decide +kernel
theorem d_Csrs_read_219 : decode b_Csrs_read 219 = .ok (.getfield 57, 3) := by decide +kernel
theorem d_Csrs_read_222 : decode b_Csrs_read 222 = .ok (.ireturn, 1) := by decide +kernel
theorem d_Csrs_read_223 : decode b_Csrs_read 223 = .ok (.aload_n 0, 1) := by decide +kernel
theorem d_Csrs_read_224 : decode b_Csrs_read 224 = .ok (.getfield 42, 3) := by decide +kernel
theorem d_Csrs_read_227 : decode b_Csrs_read 227 = .ok (.iload_n 2, 1) := by decide +kernel
theorem d_Csrs_read_228 : decode b_Csrs_read 228 = .ok (.ior, 1) := by decide +kernel
theorem d_Csrs_read_229 : decode b_Csrs_read 229 = .ok (.aload_n 0, 1) := by decide +kernel
theorem d_Csrs_read_230 : decode b_Csrs_read 230 = .ok (.getfield 21, 3) := by decide +kernel
theorem d_Csrs_read_233 : decode b_Csrs_read 233 = .ok (.iand, 1) := by decide +kernel
theorem d_Csrs_read_234 : decode b_Csrs_read 234 = .ok (.ireturn, 1) := by decide +kernel
theorem d_Csrs_read_235 : decode b_Csrs_read 235 = .ok (.aload_n 0, 1) := by decide +kernel
theorem d_Csrs_read_236 : decode b_Csrs_read 236 = .ok (.getfield 60, 3) := by decide +kernel
theorem d_Csrs_read_239 : decode b_Csrs_read 239 = .ok (.ireturn, 1) := by decide +kernel
theorem d_Csrs_read_240 : decode b_Csrs_read 240 = .ok (.aload_n 0, 1) := by decide +kernel
theorem d_Csrs_read_241 : decode b_Csrs_read 241 = .ok (.getfield 15, 3) := by decide +kernel
theorem d_Csrs_read_244 : decode b_Csrs_read 244 = .ok (.ireturn, 1) := by decide +kernel
theorem d_Csrs_read_245 : decode b_Csrs_read 245 = .ok (.ldc 71, 2) := by decide +kernel
theorem d_Csrs_read_247 : decode b_Csrs_read 247 = .ok (.ireturn, 1) := by decide +kernel
theorem d_Csrs_read_248 : decode b_Csrs_read 248 = .ok (.aload_n 0, 1) := by decide +kernel
theorem d_Csrs_read_249 : decode b_Csrs_read 249 = .ok (.getfield 18, 3) := by decide +kernel
theorem d_Csrs_read_252 : decode b_Csrs_read 252 = .ok (.ireturn, 1) := by decide +kernel
theorem d_Csrs_read_253 : decode b_Csrs_read 253 = .ok (.aload_n 0, 1) := by decide +kernel
theorem d_Csrs_read_254 : decode b_Csrs_read 254 = .ok (.getfield 21, 3) := by decide +kernel
theorem d_Csrs_read_257 : decode b_Csrs_read 257 = .ok (.ireturn, 1) := by decide +kernel
theorem d_Csrs_read_258 : decode b_Csrs_read 258 = .ok (.aload_n 0, 1) := by decide +kernel
theorem d_Csrs_read_259 : decode b_Csrs_read 259 = .ok (.getfield 24, 3) := by decide +kernel
theorem d_Csrs_read_262 : decode b_Csrs_read 262 = .ok (.ireturn, 1) := by decide +kernel
theorem d_Csrs_read_263 : decode b_Csrs_read 263 = .ok (.aload_n 0, 1) := by decide +kernel
theorem d_Csrs_read_264 : decode b_Csrs_read 264 = .ok (.getfield 27, 3) := by decide +kernel
theorem d_Csrs_read_267 : decode b_Csrs_read 267 = .ok (.ireturn, 1) := by decide +kernel
theorem d_Csrs_read_268 : decode b_Csrs_read 268 = .ok (.aload_n 0, 1) := by decide +kernel
theorem d_Csrs_read_269 : decode b_Csrs_read 269 = .ok (.getfield 33, 3) := by decide +kernel
theorem d_Csrs_read_272 : decode b_Csrs_read 272 = .ok (.ireturn, 1) := by decide +kernel
theorem d_Csrs_read_273 : decode b_Csrs_read 273 = .ok (.aload_n 0, 1) := by decide +kernel
theorem d_Csrs_read_274 : decode b_Csrs_read 274 = .ok (.getfield 30, 3) := by decide +kernel
theorem d_Csrs_read_277 : decode b_Csrs_read 277 = .ok (.ireturn, 1) := by decide +kernel
theorem d_Csrs_read_278 : decode b_Csrs_read 278 = .ok (.aload_n 0, 1) := by decide +kernel
theorem d_Csrs_read_279 : decode b_Csrs_read 279 = .ok (.getfield 36, 3) := by decide +kernel
theorem d_Csrs_read_282 : decode b_Csrs_read 282 = .ok (.ireturn, 1) := by decide +kernel
theorem d_Csrs_read_283 : decode b_Csrs_read 283 = .ok (.aload_n 0, 1) := by decide +kernel
theorem d_Csrs_read_284 : decode b_Csrs_read 284 = .ok (.getfield 39, 3) := by decide +kernel
theorem d_Csrs_read_287 : decode b_Csrs_read 287 = .ok (.ireturn, 1) := by decide +kernel
theorem d_Csrs_read_288 : decode b_Csrs_read 288 = .ok (.aload_n 0, 1) := by decide +kernel
theorem d_Csrs_read_289 : decode b_Csrs_read 289 = .ok (.getfield 42, 3) := by decide +kernel
theorem d_Csrs_read_292 : decode b_Csrs_read 292 = .ok (.iload_n 2, 1) := by decide +kernel
theorem d_Csrs_read_293 : decode b_Csrs_read 293 = .ok (.ior, 1) := by decide +kernel
theorem d_Csrs_read_294 : decode b_Csrs_read 294 = .ok (.ireturn, 1) := by decide +kernel
theorem d_Csrs_read_295 : decode b_Csrs_read 295 = .ok (.aload_n 0, 1) := by decide +kernel
theorem d_Csrs_read_296 : decode b_Csrs_read 296 = .ok (.getfield 11, 3) := by decide +kernel
theorem d_Csrs_read_299 : decode b_Csrs_read 299 = .ok (.ireturn, 1) := by decide +kernel
theorem d_Csrs_read_300 : decode b_Csrs_read 300 = .ok (.iconst 0, 1) := by decide +kernel
theorem d_Csrs_read_301 : decode b_Csrs_read 301 = .ok (.ireturn, 1) := by decide +kernel
theorem d_Csrs_merged_0 : decode b_Csrs_merged 0 = .ok (.iload_n 0, 1) := by decide +kernel
theorem d_Csrs_merged_1 : decode b_Csrs_merged 1 = .ok (.iload_n 2, 1) := by decide +kernel
theorem d_Csrs_merged_2 : decode b_Csrs_merged 2 = .ok (.iconst (-1), 1) := by decide +kernel
theorem d_Csrs_merged_3 : decode b_Csrs_merged 3 = .ok (.ixor, 1) := by decide +kernel
theorem d_Csrs_merged_4 : decode b_Csrs_merged 4 = .ok (.iand, 1) := by decide +kernel
theorem d_Csrs_merged_5 : decode b_Csrs_merged 5 = .ok (.iload_n 1, 1) := by decide +kernel
theorem d_Csrs_merged_6 : decode b_Csrs_merged 6 = .ok (.iload_n 2, 1) := by decide +kernel
theorem d_Csrs_merged_7 : decode b_Csrs_merged 7 = .ok (.iand, 1) := by decide +kernel
theorem d_Csrs_merged_8 : decode b_Csrs_merged 8 = .ok (.ior, 1) := by decide +kernel
theorem d_Csrs_merged_9 : decode b_Csrs_merged 9 = .ok (.ireturn, 1) := by decide +kernel
theorem d_Csrs_writeSupervisor_0 : decode b_Csrs_writeSupervisor 0 = .ok (.iload_n 1, 1) := by decide +kernel
theorem d_Csrs_writeSupervisor_1 : decode b_Csrs_writeSupervisor 1 = .ok (.lookupswitch 197 #[(256, 83), (260, 100), (261, 119), (320, 130), (321, 138), (322, 149), (323, 157), (324, 165), (384, 186)], 83) := by decide +kernel
theorem d_Csrs_writeSupervisor_84 : decode b_Csrs_writeSupervisor 84 = .ok (.aload_n 0, 1) := by decide +kernel
theorem d_Csrs_writeSupervisor_85 : decode b_Csrs_writeSupervisor 85 = .ok (.aload_n 0, 1) := by decide +kernel
theorem d_Csrs_writeSupervisor_86 : decode b_Csrs_writeSupervisor 86 = .ok (.getfield 15, 3) := by decide +kernel
theorem d_Csrs_writeSupervisor_89 : decode b_Csrs_writeSupervisor 89 = .ok (.iload_n 2, 1) := by decide +kernel
theorem d_Csrs_writeSupervisor_90 : decode b_Csrs_writeSupervisor 90 = .ok (.ldc 70, 2) := by decide +kernel
theorem d_Csrs_writeSupervisor_92 : decode b_Csrs_writeSupervisor 92 = .ok (.invokestatic 79, 3) := by decide +kernel
theorem d_Csrs_writeSupervisor_95 : decode b_Csrs_writeSupervisor 95 = .ok (.putfield 15, 3) := by decide +kernel
theorem d_Csrs_writeSupervisor_98 : decode b_Csrs_writeSupervisor 98 = .ok (.goto 100, 3) := by decide +kernel
theorem d_Csrs_writeSupervisor_101 : decode b_Csrs_writeSupervisor 101 = .ok (.aload_n 0, 1) := by decide +kernel
theorem d_Csrs_writeSupervisor_102 : decode b_Csrs_writeSupervisor 102 = .ok (.aload_n 0, 1) := by decide +kernel
theorem d_Csrs_writeSupervisor_103 : decode b_Csrs_writeSupervisor 103 = .ok (.getfield 24, 3) := by decide +kernel
theorem d_Csrs_writeSupervisor_106 : decode b_Csrs_writeSupervisor 106 = .ok (.iload_n 2, 1) := by decide +kernel
theorem d_Csrs_writeSupervisor_107 : decode b_Csrs_writeSupervisor 107 = .ok (.aload_n 0, 1) := by decide +kernel
theorem d_Csrs_writeSupervisor_108 : decode b_Csrs_writeSupervisor 108 = .ok (.getfield 21, 3) := by decide +kernel
theorem d_Csrs_writeSupervisor_111 : decode b_Csrs_writeSupervisor 111 = .ok (.invokestatic 79, 3) := by decide +kernel
theorem d_Csrs_writeSupervisor_114 : decode b_Csrs_writeSupervisor 114 = .ok (.putfield 24, 3) := by decide +kernel
theorem d_Csrs_writeSupervisor_117 : decode b_Csrs_writeSupervisor 117 = .ok (.goto 81, 3) := by decide +kernel
theorem d_Csrs_writeSupervisor_120 : decode b_Csrs_writeSupervisor 120 = .ok (.aload_n 0, 1) := by decide +kernel
theorem d_Csrs_writeSupervisor_121 : decode b_Csrs_writeSupervisor 121 = .ok (.iload_n 2, 1) := by decide +kernel
theorem d_Csrs_writeSupervisor_122 : decode b_Csrs_writeSupervisor 122 = .ok (.bipush (-4), 2) := by decide +kernel
theorem d_Csrs_writeSupervisor_124 : decode b_Csrs_writeSupervisor 124 = .ok (.iand, 1) := by decide +kernel
theorem d_Csrs_writeSupervisor_125 : decode b_Csrs_writeSupervisor 125 = .ok (.putfield 45, 3) := by decide +kernel
theorem d_Csrs_writeSupervisor_128 : decode b_Csrs_writeSupervisor 128 = .ok (.goto 70, 3) := by decide +kernel
theorem d_Csrs_writeSupervisor_131 : decode b_Csrs_writeSupervisor 131 = .ok (.aload_n 0, 1) := by decide +kernel
theorem d_Csrs_writeSupervisor_132 : decode b_Csrs_writeSupervisor 132 = .ok (.iload_n 2, 1) := by decide +kernel
theorem d_Csrs_writeSupervisor_133 : decode b_Csrs_writeSupervisor 133 = .ok (.putfield 51, 3) := by decide +kernel
theorem d_Csrs_writeSupervisor_136 : decode b_Csrs_writeSupervisor 136 = .ok (.goto 62, 3) := by decide +kernel
theorem d_Csrs_writeSupervisor_139 : decode b_Csrs_writeSupervisor 139 = .ok (.aload_n 0, 1) := by decide +kernel
theorem d_Csrs_writeSupervisor_140 : decode b_Csrs_writeSupervisor 140 = .ok (.iload_n 2, 1) := by decide +kernel
theorem d_Csrs_writeSupervisor_141 : decode b_Csrs_writeSupervisor 141 = .ok (.bipush (-4), 2) := by decide +kernel
theorem d_Csrs_writeSupervisor_143 : decode b_Csrs_writeSupervisor 143 = .ok (.iand, 1) := by decide +kernel
theorem d_Csrs_writeSupervisor_144 : decode b_Csrs_writeSupervisor 144 = .ok (.putfield 48, 3) := by decide +kernel
theorem d_Csrs_writeSupervisor_147 : decode b_Csrs_writeSupervisor 147 = .ok (.goto 51, 3) := by decide +kernel
theorem d_Csrs_writeSupervisor_150 : decode b_Csrs_writeSupervisor 150 = .ok (.aload_n 0, 1) := by decide +kernel
theorem d_Csrs_writeSupervisor_151 : decode b_Csrs_writeSupervisor 151 = .ok (.iload_n 2, 1) := by decide +kernel
theorem d_Csrs_writeSupervisor_152 : decode b_Csrs_writeSupervisor 152 = .ok (.putfield 54, 3) := by decide +kernel
theorem d_Csrs_writeSupervisor_155 : decode b_Csrs_writeSupervisor 155 = .ok (.goto 43, 3) := by decide +kernel
theorem d_Csrs_writeSupervisor_158 : decode b_Csrs_writeSupervisor 158 = .ok (.aload_n 0, 1) := by decide +kernel
theorem d_Csrs_writeSupervisor_159 : decode b_Csrs_writeSupervisor 159 = .ok (.iload_n 2, 1) := by decide +kernel
theorem d_Csrs_writeSupervisor_160 : decode b_Csrs_writeSupervisor 160 = .ok (.putfield 57, 3) := by decide +kernel
theorem d_Csrs_writeSupervisor_163 : decode b_Csrs_writeSupervisor 163 = .ok (.goto 35, 3) := by decide +kernel
theorem d_Csrs_writeSupervisor_166 : decode b_Csrs_writeSupervisor 166 = .ok (.aload_n 0, 1) := by decide +kernel
theorem d_Csrs_writeSupervisor_167 : decode b_Csrs_writeSupervisor 167 = .ok (.aload_n 0, 1) := by decide +kernel
theorem d_Csrs_writeSupervisor_168 : decode b_Csrs_writeSupervisor 168 = .ok (.getfield 42, 3) := by decide +kernel
theorem d_Csrs_writeSupervisor_171 : decode b_Csrs_writeSupervisor 171 = .ok (.iload_n 2, 1) := by decide +kernel
theorem d_Csrs_writeSupervisor_172 : decode b_Csrs_writeSupervisor 172 = .ok (.aload_n 0, 1) := by decide +kernel
theorem d_Csrs_writeSupervisor_173 : decode b_Csrs_writeSupervisor 173 = .ok (.getfield 21, 3) := by decide +kernel
theorem d_Csrs_writeSupervisor_176 : decode b_Csrs_writeSupervisor 176 = .ok (.iconst 2, 1) := by decide +kernel
theorem d_Csrs_writeSupervisor_177 : decode b_Csrs_writeSupervisor 177 = .ok (.iand, 1) := by decide +kernel
theorem d_Csrs_writeSupervisor_178 : decode b_Csrs_writeSupervisor 178 = .ok (.invokestatic 79, 3) := by decide +kernel
theorem d_Csrs_writeSupervisor_181 : decode b_Csrs_writeSupervisor 181 = .ok (.putfield 42, 3) := by decide +kernel
theorem d_Csrs_writeSupervisor_184 : decode b_Csrs_writeSupervisor 184 = .ok (.goto 14, 3) := by decide +kernel
theorem d_Csrs_writeSupervisor_187 : decode b_Csrs_writeSupervisor 187 = .ok (.aload_n 0, 1) := by decide +kernel
theorem d_Csrs_writeSupervisor_188 : decode b_Csrs_writeSupervisor 188 = .ok (.iload_n 2, 1) := by decide +kernel
theorem d_Csrs_writeSupervisor_189 : decode b_Csrs_writeSupervisor 189 = .ok (.ldc 83, 2) := by decide +kernel
theorem d_Csrs_writeSupervisor_191 : decode b_Csrs_writeSupervisor 191 = .ok (.iand, 1) := by decide +kernel
theorem d_Csrs_writeSupervisor_192 : decode b_Csrs_writeSupervisor 192 = .ok (.putfield 60, 3) := by decide +kernel
theorem d_Csrs_writeSupervisor_195 : decode b_Csrs_writeSupervisor 195 = .ok (.goto 3, 3) := by decide +kernel
theorem d_Csrs_writeSupervisor_198 : decode b_Csrs_writeSupervisor 198 = .ok (.return_, 1) := by decide +kernel
theorem d_Csrs_withoutLevelTwo_0 : decode b_Csrs_withoutLevelTwo 0 = .ok (.iload_n 0, 1) := by decide +kernel
theorem d_Csrs_withoutLevelTwo_1 : decode b_Csrs_withoutLevelTwo 1 = .ok (.sipush 6144, 3) := by decide +kernel
theorem d_Csrs_withoutLevelTwo_4 : decode b_Csrs_withoutLevelTwo 4 = .ok (.iand, 1) := by decide +kernel
theorem d_Csrs_withoutLevelTwo_5 : decode b_Csrs_withoutLevelTwo 5 = .ok (.sipush 4096, 3) := by decide +kernel
theorem d_Csrs_withoutLevelTwo_8 : decode b_Csrs_withoutLevelTwo 8 = .ok (.if_icmp .ne 11, 3) := by decide +kernel
theorem d_Csrs_withoutLevelTwo_11 : decode b_Csrs_withoutLevelTwo 11 = .ok (.iload_n 0, 1) := by decide +kernel
theorem d_Csrs_withoutLevelTwo_12 : decode b_Csrs_withoutLevelTwo 12 = .ok (.sipush (-6145), 3) := by decide +kernel
theorem d_Csrs_withoutLevelTwo_15 : decode b_Csrs_withoutLevelTwo 15 = .ok (.iand, 1) := by decide +kernel
theorem d_Csrs_withoutLevelTwo_16 : decode b_Csrs_withoutLevelTwo 16 = .ok (.goto 4, 3) := by decide +kernel
theorem d_Csrs_withoutLevelTwo_19 : decode b_Csrs_withoutLevelTwo 19 = .ok (.iload_n 0, 1) := by decide +kernel
theorem d_Csrs_withoutLevelTwo_20 : decode b_Csrs_withoutLevelTwo 20 = .ok (.ireturn, 1) := by decide +kernel
theorem d_Csrs_writeMachine_0 : decode b_Csrs_writeMachine 0 = .ok (.iload_n 1, 1) := by decide +kernel
theorem d_Csrs_writeMachine_1 : decode b_Csrs_writeMachine 1 = .ok (.lookupswitch 198 #[(768, 91), (770, 105), (771, 116), (772, 128), (773, 140), (832, 151), (833, 159), (834, 170), (835, 178), (836, 186)], 91) := by decide +kernel
theorem d_Csrs_writeMachine_92 : decode b_Csrs_writeMachine 92 = .ok (.aload_n 0, 1) := by decide +kernel
theorem d_Csrs_writeMachine_93 : decode b_Csrs_writeMachine 93 = .ok (.iload_n 2, 1) := by decide +kernel
theorem d_Csrs_writeMachine_94 : decode b_Csrs_writeMachine 94 = .ok (.ldc 84, 2) := by decide +kernel
theorem d_Csrs_writeMachine_96 : decode b_Csrs_writeMachine 96 = .ok (.iand, 1) := by decide +kernel
theorem d_Csrs_writeMachine_97 : decode b_Csrs_writeMachine 97 = .ok (.invokestatic 85, 3) := by decide +kernel
theorem d_Csrs_writeMachine_100 : decode b_Csrs_writeMachine 100 = .ok (.putfield 15, 3) := by decide +kernel
theorem d_Csrs_writeMachine_103 : decode b_Csrs_writeMachine 103 = .ok (.goto 96, 3) := by decide +kernel
theorem d_Csrs_writeMachine_106 : decode b_Csrs_writeMachine 106 = .ok (.aload_n 0, 1) := by decide +kernel
theorem d_Csrs_writeMachine_107 : decode b_Csrs_writeMachine 107 = .ok (.iload_n 2, 1) := by decide +kernel
theorem d_Csrs_writeMachine_108 : decode b_Csrs_writeMachine 108 = .ok (.ldc 89, 2) := by decide +kernel
theorem d_Csrs_writeMachine_110 : decode b_Csrs_writeMachine 110 = .ok (.iand, 1) := by decide +kernel
theorem d_Csrs_writeMachine_111 : decode b_Csrs_writeMachine 111 = .ok (.putfield 18, 3) := by decide +kernel
theorem d_Csrs_writeMachine_114 : decode b_Csrs_writeMachine 114 = .ok (.goto 85, 3) := by decide +kernel
theorem d_Csrs_writeMachine_117 : decode b_Csrs_writeMachine 117 = .ok (.aload_n 0, 1) := by decide +kernel
theorem d_Csrs_writeMachine_118 : decode b_Csrs_writeMachine 118 = .ok (.iload_n 2, 1) := by decide +kernel
theorem d_Csrs_writeMachine_119 : decode b_Csrs_writeMachine 119 = .ok (.sipush 546, 3) := by decide +kernel
theorem d_Csrs_writeMachine_122 : decode b_Csrs_writeMachine 122 = .ok (.iand, 1) := by decide +kernel
theorem d_Csrs_writeMachine_123 : decode b_Csrs_writeMachine 123 = .ok (.putfield 21, 3) := by decide +kernel
theorem d_Csrs_writeMachine_126 : decode b_Csrs_writeMachine 126 = .ok (.goto 73, 3) := by decide +kernel
theorem d_Csrs_writeMachine_129 : decode b_Csrs_writeMachine 129 = .ok (.aload_n 0, 1) := by decide +kernel
theorem d_Csrs_writeMachine_130 : decode b_Csrs_writeMachine 130 = .ok (.iload_n 2, 1) := by decide +kernel
theorem d_Csrs_writeMachine_131 : decode b_Csrs_writeMachine 131 = .ok (.sipush 2730, 3) := by decide +kernel
theorem d_Csrs_writeMachine_134 : decode b_Csrs_writeMachine 134 = .ok (.iand, 1) := by decide +kernel
theorem d_Csrs_writeMachine_135 : decode b_Csrs_writeMachine 135 = .ok (.putfield 24, 3) := by decide +kernel
theorem d_Csrs_writeMachine_138 : decode b_Csrs_writeMachine 138 = .ok (.goto 61, 3) := by decide +kernel
theorem d_Csrs_writeMachine_141 : decode b_Csrs_writeMachine 141 = .ok (.aload_n 0, 1) := by decide +kernel
theorem d_Csrs_writeMachine_142 : decode b_Csrs_writeMachine 142 = .ok (.iload_n 2, 1) := by decide +kernel
theorem d_Csrs_writeMachine_143 : decode b_Csrs_writeMachine 143 = .ok (.bipush (-4), 2) := by decide +kernel
theorem d_Csrs_writeMachine_145 : decode b_Csrs_writeMachine 145 = .ok (.iand, 1) := by decide +kernel
theorem d_Csrs_writeMachine_146 : decode b_Csrs_writeMachine 146 = .ok (.putfield 27, 3) := by decide +kernel
theorem d_Csrs_writeMachine_149 : decode b_Csrs_writeMachine 149 = .ok (.goto 50, 3) := by decide +kernel
theorem d_Csrs_writeMachine_152 : decode b_Csrs_writeMachine 152 = .ok (.aload_n 0, 1) := by decide +kernel
theorem d_Csrs_writeMachine_153 : decode b_Csrs_writeMachine 153 = .ok (.iload_n 2, 1) := by decide +kernel
theorem d_Csrs_writeMachine_154 : decode b_Csrs_writeMachine 154 = .ok (.putfield 33, 3) := by decide +kernel
theorem d_Csrs_writeMachine_157 : decode b_Csrs_writeMachine 157 = .ok (.goto 42, 3) := by decide +kernel
theorem d_Csrs_writeMachine_160 : decode b_Csrs_writeMachine 160 = .ok (.aload_n 0, 1) := by decide +kernel
theorem d_Csrs_writeMachine_161 : decode b_Csrs_writeMachine 161 = .ok (.iload_n 2, 1) := by decide +kernel
theorem d_Csrs_writeMachine_162 : decode b_Csrs_writeMachine 162 = .ok (.bipush (-4), 2) := by decide +kernel
theorem d_Csrs_writeMachine_164 : decode b_Csrs_writeMachine 164 = .ok (.iand, 1) := by decide +kernel
theorem d_Csrs_writeMachine_165 : decode b_Csrs_writeMachine 165 = .ok (.putfield 30, 3) := by decide +kernel
theorem d_Csrs_writeMachine_168 : decode b_Csrs_writeMachine 168 = .ok (.goto 31, 3) := by decide +kernel
theorem d_Csrs_writeMachine_171 : decode b_Csrs_writeMachine 171 = .ok (.aload_n 0, 1) := by decide +kernel
theorem d_Csrs_writeMachine_172 : decode b_Csrs_writeMachine 172 = .ok (.iload_n 2, 1) := by decide +kernel
theorem d_Csrs_writeMachine_173 : decode b_Csrs_writeMachine 173 = .ok (.putfield 36, 3) := by decide +kernel
theorem d_Csrs_writeMachine_176 : decode b_Csrs_writeMachine 176 = .ok (.goto 23, 3) := by decide +kernel
theorem d_Csrs_writeMachine_179 : decode b_Csrs_writeMachine 179 = .ok (.aload_n 0, 1) := by decide +kernel
theorem d_Csrs_writeMachine_180 : decode b_Csrs_writeMachine 180 = .ok (.iload_n 2, 1) := by decide +kernel
theorem d_Csrs_writeMachine_181 : decode b_Csrs_writeMachine 181 = .ok (.putfield 39, 3) := by decide +kernel
theorem d_Csrs_writeMachine_184 : decode b_Csrs_writeMachine 184 = .ok (.goto 15, 3) := by decide +kernel
theorem d_Csrs_writeMachine_187 : decode b_Csrs_writeMachine 187 = .ok (.aload_n 0, 1) := by decide +kernel
theorem d_Csrs_writeMachine_188 : decode b_Csrs_writeMachine 188 = .ok (.iload_n 2, 1) := by decide +kernel
theorem d_Csrs_writeMachine_189 : decode b_Csrs_writeMachine 189 = .ok (.sipush 546, 3) := by decide +kernel
theorem d_Csrs_writeMachine_192 : decode b_Csrs_writeMachine 192 = .ok (.iand, 1) := by decide +kernel
theorem d_Csrs_writeMachine_193 : decode b_Csrs_writeMachine 193 = .ok (.putfield 42, 3) := by decide +kernel
theorem d_Csrs_writeMachine_196 : decode b_Csrs_writeMachine 196 = .ok (.goto 3, 3) := by decide +kernel
theorem d_Csrs_writeMachine_199 : decode b_Csrs_writeMachine 199 = .ok (.return_, 1) := by decide +kernel
theorem d_Csrs_write_0 : decode b_Csrs_write 0 = .ok (.iload_n 1, 1) := by decide +kernel
theorem d_Csrs_write_1 : decode b_Csrs_write 1 = .ok (.sipush 768, 3) := by decide +kernel
theorem d_Csrs_write_4 : decode b_Csrs_write 4 = .ok (.if_icmp .ge 12, 3) := by decide +kernel
theorem d_Csrs_write_7 : decode b_Csrs_write 7 = .ok (.aload_n 0, 1) := by decide +kernel
theorem d_Csrs_write_8 : decode b_Csrs_write 8 = .ok (.iload_n 1, 1) := by decide +kernel
theorem d_Csrs_write_9 : decode b_Csrs_write 9 = .ok (.iload_n 2, 1) := by decide +kernel
theorem d_Csrs_write_10 : decode b_Csrs_write 10 = .ok (.invokevirtual 72, 3) := by decide +kernel
theorem d_Csrs_write_13 : decode b_Csrs_write 13 = .ok (.goto 9, 3) := by decide +kernel
theorem d_Csrs_write_16 : decode b_Csrs_write 16 = .ok (.aload_n 0, 1) := by decide +kernel
theorem d_Csrs_write_17 : decode b_Csrs_write 17 = .ok (.iload_n 1, 1) := by decide +kernel
theorem d_Csrs_write_18 : decode b_Csrs_write 18 = .ok (.iload_n 2, 1) := by decide +kernel
theorem d_Csrs_write_19 : decode b_Csrs_write 19 = .ok (.invokevirtual 76, 3) := by decide +kernel
theorem d_Csrs_write_22 : decode b_Csrs_write 22 = .ok (.return_, 1) := by decide +kernel
theorem d_Csrs_handsDownTrap_0 : decode b_Csrs_handsDownTrap 0 = .ok (.aload_n 0, 1) := by decide +kernel
theorem d_Csrs_handsDownTrap_1 : decode b_Csrs_handsDownTrap 1 = .ok (.getfield 18, 3) := by decide +kernel
theorem d_Csrs_handsDownTrap_4 : decode b_Csrs_handsDownTrap 4 = .ok (.iload_n 1, 1) := by decide +kernel
theorem d_Csrs_handsDownTrap_5 : decode b_Csrs_handsDownTrap 5 = .ok (.ishr, 1) := by decide +kernel
theorem d_Csrs_handsDownTrap_6 : decode b_Csrs_handsDownTrap 6 = .ok (.iconst 1, 1) := by decide +kernel
theorem d_Csrs_handsDownTrap_7 : decode b_Csrs_handsDownTrap 7 = .ok (.iand, 1) := by decide +kernel
theorem d_Csrs_handsDownTrap_8 : decode b_Csrs_handsDownTrap 8 = .ok (.ifCond .eq 7, 3) := by decide +kernel
theorem d_Csrs_handsDownTrap_11 : decode b_Csrs_handsDownTrap 11 = .ok (.iconst 1, 1) := by decide +kernel
theorem d_Csrs_handsDownTrap_12 : decode b_Csrs_handsDownTrap 12 = .ok (.goto 4, 3) := by decide +kernel
theorem d_Csrs_handsDownTrap_15 : decode b_Csrs_handsDownTrap 15 = .ok (.iconst 0, 1) := by decide +kernel
theorem d_Csrs_handsDownTrap_16 : decode b_Csrs_handsDownTrap 16 = .ok (.ireturn, 1) := by decide +kernel
