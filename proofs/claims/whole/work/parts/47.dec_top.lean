theorem d_TwinHart_isHart_0 : decode b_TwinHart_isHart 0 = .ok (.iload_n 0, 1) := by decide +kernel
theorem d_TwinHart_isHart_1 : decode b_TwinHart_isHart 1 = .ok (.ifCond .eq 8, 3) := by decide +kernel
theorem d_TwinHart_isHart_4 : decode b_TwinHart_isHart 4 = .ok (.iload_n 0, 1) := by decide +kernel
theorem d_TwinHart_isHart_5 : decode b_TwinHart_isHart 5 = .ok (.iconst 1, 1) := by decide +kernel
theorem d_TwinHart_isHart_6 : decode b_TwinHart_isHart 6 = .ok (.if_icmp .ne 7, 3) := by decide +kernel
theorem d_TwinHart_isHart_9 : decode b_TwinHart_isHart 9 = .ok (.iconst 1, 1) := by decide +kernel
theorem d_TwinHart_isHart_10 : decode b_TwinHart_isHart 10 = .ok (.goto 4, 3) := by decide +kernel
theorem d_TwinHart_isHart_13 : decode b_TwinHart_isHart 13 = .ok (.iconst 0, 1) := by decide +kernel
theorem d_TwinHart_isHart_14 : decode b_TwinHart_isHart 14 = .ok (.ireturn, 1) := by decide +kernel
theorem d_TwinHart_isRegister_0 : decode b_TwinHart_isRegister 0 = .ok (.iload_n 0, 1) := by decide +kernel
theorem d_TwinHart_isRegister_1 : decode b_TwinHart_isRegister 1 = .ok (.ifCond .lt 13, 3) := by decide +kernel
theorem d_TwinHart_isRegister_4 : decode b_TwinHart_isRegister 4 = .ok (.iload_n 0, 1) := by decide +kernel
theorem d_TwinHart_isRegister_5 : decode b_TwinHart_isRegister 5 = .ok (.bipush 32, 2) := by decide +kernel
theorem d_TwinHart_isRegister_7 : decode b_TwinHart_isRegister 7 = .ok (.if_icmp .ge 7, 3) := by decide +kernel
theorem d_TwinHart_isRegister_10 : decode b_TwinHart_isRegister 10 = .ok (.iconst 1, 1) := by decide +kernel
theorem d_TwinHart_isRegister_11 : decode b_TwinHart_isRegister 11 = .ok (.goto 4, 3) := by decide +kernel
theorem d_TwinHart_isRegister_14 : decode b_TwinHart_isRegister 14 = .ok (.iconst 0, 1) := by decide +kernel
theorem d_TwinHart_isRegister_15 : decode b_TwinHart_isRegister 15 = .ok (.ireturn, 1) := by decide +kernel
theorem d_TwinHart_reset_0 : decode b_TwinHart_reset 0 = .ok (.aload_n 0, 1) := by decide +kernel
theorem d_TwinHart_reset_1 : decode b_TwinHart_reset 1 = .ok (.getfield 23, 3) := by decide +kernel
theorem d_TwinHart_reset_4 : decode b_TwinHart_reset 4 = .ok (.invokevirtual 34, 3) := by decide +kernel
theorem d_TwinHart_reset_7 : decode b_TwinHart_reset 7 = .ok (.aload_n 0, 1) := by decide +kernel
theorem d_TwinHart_reset_8 : decode b_TwinHart_reset 8 = .ok (.getfield 30, 3) := by decide +kernel
theorem d_TwinHart_reset_11 : decode b_TwinHart_reset 11 = .ok (.iconst 0, 1) := by decide +kernel
theorem d_TwinHart_reset_12 : decode b_TwinHart_reset 12 = .ok (.aaload, 1) := by decide +kernel
theorem d_TwinHart_reset_13 : decode b_TwinHart_reset 13 = .ok (.invokevirtual 37, 3) := by decide +kernel
theorem d_TwinHart_reset_16 : decode b_TwinHart_reset 16 = .ok (.aload_n 0, 1) := by decide +kernel
theorem d_TwinHart_reset_17 : decode b_TwinHart_reset 17 = .ok (.getfield 30, 3) := by decide +kernel
theorem d_TwinHart_reset_20 : decode b_TwinHart_reset 20 = .ok (.iconst 1, 1) := by decide +kernel
theorem d_TwinHart_reset_21 : decode b_TwinHart_reset 21 = .ok (.aaload, 1) := by decide +kernel
theorem d_TwinHart_reset_22 : decode b_TwinHart_reset 22 = .ok (.invokevirtual 37, 3) := by decide +kernel
theorem d_TwinHart_reset_25 : decode b_TwinHart_reset 25 = .ok (.return_, 1) := by decide +kernel
theorem d_TwinHart_poke_0 : decode b_TwinHart_poke 0 = .ok (.aload_n 0, 1) := by decide +kernel
theorem d_TwinHart_poke_1 : decode b_TwinHart_poke 1 = .ok (.getfield 23, 3) := by decide +kernel
theorem d_TwinHart_poke_4 : decode b_TwinHart_poke 4 = .ok (.iload_n 1, 1) := by decide +kernel
theorem d_TwinHart_poke_5 : decode b_TwinHart_poke 5 = .ok (.invokevirtual 38, 3) := by decide +kernel
theorem d_TwinHart_poke_8 : decode b_TwinHart_poke 8 = .ok (.ifCond .ne 5, 3) := by decide +kernel
theorem d_TwinHart_poke_11 : decode b_TwinHart_poke 11 = .ok (.iconst 0, 1) := by decide +kernel
theorem d_TwinHart_poke_12 : decode b_TwinHart_poke 12 = .ok (.ireturn, 1) := by decide +kernel
theorem d_TwinHart_poke_13 : decode b_TwinHart_poke 13 = .ok (.aload_n 0, 1) := by decide +kernel
theorem d_TwinHart_poke_14 : decode b_TwinHart_poke 14 = .ok (.getfield 23, 3) := by decide +kernel
theorem d_TwinHart_poke_17 : decode b_TwinHart_poke 17 = .ok (.getfield 42, 3) := by decide +kernel
theorem d_TwinHart_poke_20 : decode b_TwinHart_poke 20 = .ok (.iload_n 1, 1) := by decide +kernel
theorem d_TwinHart_poke_21 : decode b_TwinHart_poke 21 = .ok (.iload_n 2, 1) := by decide +kernel
theorem d_TwinHart_poke_22 : decode b_TwinHart_poke 22 = .ok (.iastore, 1) := by decide +kernel
theorem d_TwinHart_poke_23 : decode b_TwinHart_poke 23 = .ok (.iconst 1, 1) := by decide +kernel
theorem d_TwinHart_poke_24 : decode b_TwinHart_poke 24 = .ok (.ireturn, 1) := by decide +kernel
theorem d_TwinHart_peek_0 : decode b_TwinHart_peek 0 = .ok (.aload_n 0, 1) := by decide +kernel
theorem d_TwinHart_peek_1 : decode b_TwinHart_peek 1 = .ok (.getfield 23, 3) := by decide +kernel
theorem d_TwinHart_peek_4 : decode b_TwinHart_peek 4 = .ok (.iload_n 1, 1) := by decide +kernel
theorem d_TwinHart_peek_5 : decode b_TwinHart_peek 5 = .ok (.invokevirtual 38, 3) := by decide +kernel
theorem d_TwinHart_peek_8 : decode b_TwinHart_peek 8 = .ok (.ifCond .eq 15, 3) := by decide +kernel
theorem d_TwinHart_peek_11 : decode b_TwinHart_peek 11 = .ok (.aload_n 0, 1) := by decide +kernel
theorem d_TwinHart_peek_12 : decode b_TwinHart_peek 12 = .ok (.getfield 23, 3) := by decide +kernel
theorem d_TwinHart_peek_15 : decode b_TwinHart_peek 15 = .ok (.getfield 42, 3) := by decide +kernel
theorem d_TwinHart_peek_18 : decode b_TwinHart_peek 18 = .ok (.iload_n 1, 1) := by decide +kernel
theorem d_TwinHart_peek_19 : decode b_TwinHart_peek 19 = .ok (.iaload, 1) := by decide +kernel
theorem d_TwinHart_peek_20 : decode b_TwinHart_peek 20 = .ok (.goto 4, 3) := by decide +kernel
theorem d_TwinHart_peek_23 : decode b_TwinHart_peek 23 = .ok (.iconst 0, 1) := by decide +kernel
theorem d_TwinHart_peek_24 : decode b_TwinHart_peek 24 = .ok (.ireturn, 1) := by decide +kernel
theorem d_TwinHart_step_0 : decode b_TwinHart_step 0 = .ok (.iload_n 1, 1) := by decide +kernel
theorem d_TwinHart_step_1 : decode b_TwinHart_step 1 = .ok (.invokestatic 46, 3) := by decide +kernel
theorem d_TwinHart_step_4 : decode b_TwinHart_step 4 = .ok (.ifCond .ne 5, 3) := by decide +kernel
theorem d_TwinHart_step_7 : decode b_TwinHart_step 7 = .ok (.iconst (-1), 1) := by decide +kernel
theorem d_TwinHart_step_8 : decode b_TwinHart_step 8 = .ok (.ireturn, 1) := by decide +kernel
theorem d_TwinHart_step_9 : decode b_TwinHart_step 9 = .ok (.aload_n 0, 1) := by decide +kernel
theorem d_TwinHart_step_10 : decode b_TwinHart_step 10 = .ok (.getfield 30, 3) := by decide +kernel
theorem d_TwinHart_step_13 : decode b_TwinHart_step 13 = .ok (.iload_n 1, 1) := by decide +kernel
theorem d_TwinHart_step_14 : decode b_TwinHart_step 14 = .ok (.aaload, 1) := by decide +kernel
theorem d_TwinHart_step_15 : decode b_TwinHart_step 15 = .ok (.aload_n 0, 1) := by decide +kernel
theorem d_TwinHart_step_16 : decode b_TwinHart_step 16 = .ok (.getfield 23, 3) := by decide +kernel
theorem d_TwinHart_step_19 : decode b_TwinHart_step 19 = .ok (.invokevirtual 49, 3) := by decide +kernel
theorem d_TwinHart_step_22 : decode b_TwinHart_step 22 = .ok (.istore_n 2, 1) := by decide +kernel
theorem d_TwinHart_step_23 : decode b_TwinHart_step 23 = .ok (.iload_n 2, 1) := by decide +kernel
theorem d_TwinHart_step_24 : decode b_TwinHart_step 24 = .ok (.ifCond .eq 10, 3) := by decide +kernel
theorem d_TwinHart_step_27 : decode b_TwinHart_step 27 = .ok (.aload_n 0, 1) := by decide +kernel
theorem d_TwinHart_step_28 : decode b_TwinHart_step 28 = .ok (.getfield 23, 3) := by decide +kernel
theorem d_TwinHart_step_31 : decode b_TwinHart_step 31 = .ok (.invokevirtual 53, 3) := by decide +kernel
theorem d_TwinHart_step_34 : decode b_TwinHart_step 34 = .ok (.iload_n 2, 1) := by decide +kernel
theorem d_TwinHart_step_35 : decode b_TwinHart_step 35 = .ok (.ireturn, 1) := by decide +kernel
theorem d_TwinHart_tick_0 : decode b_TwinHart_tick 0 = .ok (.aload_n 0, 1) := by decide +kernel
theorem d_TwinHart_tick_1 : decode b_TwinHart_tick 1 = .ok (.getfield 23, 3) := by decide +kernel
theorem d_TwinHart_tick_4 : decode b_TwinHart_tick 4 = .ok (.getfield 56, 3) := by decide +kernel
theorem d_TwinHart_tick_7 : decode b_TwinHart_tick 7 = .ok (.invokevirtual 60, 3) := by decide +kernel
theorem d_TwinHart_tick_10 : decode b_TwinHart_tick 10 = .ok (.return_, 1) := by decide +kernel
theorem d_TwinHart_register_0 : decode b_TwinHart_register 0 = .ok (.iload_n 1, 1) := by decide +kernel
theorem d_TwinHart_register_1 : decode b_TwinHart_register 1 = .ok (.invokestatic 46, 3) := by decide +kernel
theorem d_TwinHart_register_4 : decode b_TwinHart_register 4 = .ok (.ifCond .eq 24, 3) := by decide +kernel
theorem d_TwinHart_register_7 : decode b_TwinHart_register 7 = .ok (.iload_n 2, 1) := by decide +kernel
theorem d_TwinHart_register_8 : decode b_TwinHart_register 8 = .ok (.invokestatic 65, 3) := by decide +kernel
theorem d_TwinHart_register_11 : decode b_TwinHart_register 11 = .ok (.ifCond .eq 17, 3) := by decide +kernel
theorem d_TwinHart_register_14 : decode b_TwinHart_register 14 = .ok (.aload_n 0, 1) := by decide +kernel
theorem d_TwinHart_register_15 : decode b_TwinHart_register 15 = .ok (.getfield 30, 3) := by decide +kernel
theorem d_TwinHart_register_18 : decode b_TwinHart_register 18 = .ok (.iload_n 1, 1) := by decide +kernel
theorem d_TwinHart_register_19 : decode b_TwinHart_register 19 = .ok (.aaload, 1) := by decide +kernel
theorem d_TwinHart_register_20 : decode b_TwinHart_register 20 = .ok (.getfield 68, 3) := by decide +kernel
theorem d_TwinHart_register_23 : decode b_TwinHart_register 23 = .ok (.iload_n 2, 1) := by decide +kernel
theorem d_TwinHart_register_24 : decode b_TwinHart_register 24 = .ok (.iaload, 1) := by decide +kernel
theorem d_TwinHart_register_25 : decode b_TwinHart_register 25 = .ok (.goto 4, 3) := by decide +kernel
theorem d_TwinHart_register_28 : decode b_TwinHart_register 28 = .ok (.iconst 0, 1) := by decide +kernel
theorem d_TwinHart_register_29 : decode b_TwinHart_register 29 = .ok (.ireturn, 1) := by decide +kernel
theorem d_TwinHart_set_0 : decode b_TwinHart_set 0 = .ok (.iload_n 1, 1) := by decide +kernel
theorem d_TwinHart_set_1 : decode b_TwinHart_set 1 = .ok (.invokestatic 46, 3) := by decide +kernel
theorem d_TwinHart_set_4 : decode b_TwinHart_set 4 = .ok (.ifCond .eq 14, 3) := by decide +kernel
theorem d_TwinHart_set_7 : decode b_TwinHart_set 7 = .ok (.iload_n 2, 1) := by decide +kernel
theorem d_TwinHart_set_8 : decode b_TwinHart_set 8 = .ok (.invokestatic 65, 3) := by decide +kernel
theorem d_TwinHart_set_11 : decode b_TwinHart_set 11 = .ok (.ifCond .eq 7, 3) := by decide +kernel
theorem d_TwinHart_set_14 : decode b_TwinHart_set 14 = .ok (.iload_n 2, 1) := by decide +kernel
theorem d_TwinHart_set_15 : decode b_TwinHart_set 15 = .ok (.ifCond .ne 5, 3) := by decide +kernel
theorem d_TwinHart_set_18 : decode b_TwinHart_set 18 = .ok (.iconst 0, 1) := by decide +kernel
theorem d_TwinHart_set_19 : decode b_TwinHart_set 19 = .ok (.ireturn, 1) := by decide +kernel
theorem d_TwinHart_set_20 : decode b_TwinHart_set 20 = .ok (.aload_n 0, 1) := by decide +kernel
theorem d_TwinHart_set_21 : decode b_TwinHart_set 21 = .ok (.getfield 30, 3) := by decide +kernel
theorem d_TwinHart_set_24 : decode b_TwinHart_set 24 = .ok (.iload_n 1, 1) := by decide +kernel
theorem d_TwinHart_set_25 : decode b_TwinHart_set 25 = .ok (.aaload, 1) := by decide +kernel
theorem d_TwinHart_set_26 : decode b_TwinHart_set 26 = .ok (.getfield 68, 3) := by decide +kernel
theorem d_TwinHart_set_29 : decode b_TwinHart_set 29 = .ok (.iload_n 2, 1) := by decide +kernel
theorem d_TwinHart_set_30 : decode b_TwinHart_set 30 = .ok (.iload_n 3, 1) := by decide +kernel
theorem d_TwinHart_set_31 : decode b_TwinHart_set 31 = .ok (.iastore, 1) := by decide +kernel
theorem d_TwinHart_set_32 : decode b_TwinHart_set 32 = .ok (.iconst 1, 1) := by decide +kernel
theorem d_TwinHart_set_33 : decode b_TwinHart_set 33 = .ok (.ireturn, 1) := by decide +kernel
theorem d_TwinHart_pc_0 : decode b_TwinHart_pc 0 = .ok (.iload_n 1, 1) := by decide +kernel
theorem d_TwinHart_pc_1 : decode b_TwinHart_pc 1 = .ok (.invokestatic 46, 3) := by decide +kernel
theorem d_TwinHart_pc_4 : decode b_TwinHart_pc 4 = .ok (.ifCond .eq 15, 3) := by decide +kernel
theorem d_TwinHart_pc_7 : decode b_TwinHart_pc 7 = .ok (.aload_n 0, 1) := by decide +kernel
theorem d_TwinHart_pc_8 : decode b_TwinHart_pc 8 = .ok (.getfield 30, 3) := by decide +kernel
theorem d_TwinHart_pc_11 : decode b_TwinHart_pc 11 = .ok (.iload_n 1, 1) := by decide +kernel
theorem d_TwinHart_pc_12 : decode b_TwinHart_pc 12 = .ok (.aaload, 1) := by decide +kernel
theorem d_TwinHart_pc_13 : decode b_TwinHart_pc 13 = .ok (.getfield 71, 3) := by decide +kernel
theorem d_TwinHart_pc_16 : decode b_TwinHart_pc 16 = .ok (.goto 4, 3) := by decide +kernel
theorem d_TwinHart_pc_19 : decode b_TwinHart_pc 19 = .ok (.iconst 0, 1) := by decide +kernel
theorem d_TwinHart_pc_20 : decode b_TwinHart_pc 20 = .ok (.ireturn, 1) := by decide +kernel
theorem d_TwinHart_csr_0 : decode b_TwinHart_csr 0 = .ok (.iload_n 1, 1) := by decide +kernel
theorem d_TwinHart_csr_1 : decode b_TwinHart_csr 1 = .ok (.invokestatic 46, 3) := by decide +kernel
theorem d_TwinHart_csr_4 : decode b_TwinHart_csr 4 = .ok (.ifCond .eq 30, 3) := by decide +kernel
theorem d_TwinHart_csr_7 : decode b_TwinHart_csr 7 = .ok (.aload_n 0, 1) := by decide +kernel
theorem d_TwinHart_csr_8 : decode b_TwinHart_csr 8 = .ok (.getfield 30, 3) := by decide +kernel
theorem d_TwinHart_csr_11 : decode b_TwinHart_csr 11 = .ok (.iload_n 1, 1) := by decide +kernel
theorem d_TwinHart_csr_12 : decode b_TwinHart_csr 12 = .ok (.aaload, 1) := by decide +kernel
theorem d_TwinHart_csr_13 : decode b_TwinHart_csr 13 = .ok (.getfield 75, 3) := by decide +kernel
theorem d_TwinHart_csr_16 : decode b_TwinHart_csr 16 = .ok (.iload_n 2, 1) := by decide +kernel
theorem d_TwinHart_csr_17 : decode b_TwinHart_csr 17 = .ok (.aload_n 0, 1) := by decide +kernel
theorem d_TwinHart_csr_18 : decode b_TwinHart_csr 18 = .ok (.getfield 23, 3) := by decide +kernel
theorem d_TwinHart_csr_21 : decode b_TwinHart_csr 21 = .ok (.getfield 56, 3) := by decide +kernel
theorem d_TwinHart_csr_24 : decode b_TwinHart_csr 24 = .ok (.iload_n 1, 1) := by decide +kernel
theorem d_TwinHart_csr_25 : decode b_TwinHart_csr 25 = .ok (.invokevirtual 79, 3) := by decide +kernel
theorem d_TwinHart_csr_28 : decode b_TwinHart_csr 28 = .ok (.invokevirtual 83, 3) := by decide +kernel
theorem d_TwinHart_csr_31 : decode b_TwinHart_csr 31 = .ok (.goto 4, 3) := by decide +kernel
theorem d_TwinHart_csr_34 : decode b_TwinHart_csr 34 = .ok (.iconst 0, 1) := by decide +kernel
theorem d_TwinHart_csr_35 : decode b_TwinHart_csr 35 = .ok (.ireturn, 1) := by decide +kernel
theorem d_TwinHart_put_0 : decode b_TwinHart_put 0 = .ok (.iload_n 1, 1) := by decide +kernel
theorem d_TwinHart_put_1 : decode b_TwinHart_put 1 = .ok (.invokestatic 46, 3) := by decide +kernel
theorem d_TwinHart_put_4 : decode b_TwinHart_put 4 = .ok (.ifCond .eq 17, 3) := by decide +kernel
theorem d_TwinHart_put_7 : decode b_TwinHart_put 7 = .ok (.iload_n 2, 1) := by decide +kernel
theorem d_TwinHart_put_8 : decode b_TwinHart_put 8 = .ok (.invokestatic 88, 3) := by decide +kernel
theorem d_TwinHart_put_11 : decode b_TwinHart_put 11 = .ok (.ifCond .eq 10, 3) := by decide +kernel
theorem d_TwinHart_put_14 : decode b_TwinHart_put 14 = .ok (.iload_n 2, 1) := by decide +kernel
theorem d_TwinHart_put_15 : decode b_TwinHart_put 15 = .ok (.invokestatic 91, 3) := by decide +kernel
theorem d_TwinHart_put_18 : decode b_TwinHart_put 18 = .ok (.ifCond .eq 5, 3) := by decide +kernel
theorem d_TwinHart_put_21 : decode b_TwinHart_put 21 = .ok (.iconst 0, 1) := by decide +kernel
theorem d_TwinHart_put_22 : decode b_TwinHart_put 22 = .ok (.ireturn, 1) := by decide +kernel
theorem d_TwinHart_put_23 : decode b_TwinHart_put 23 = .ok (.aload_n 0, 1) := by decide +kernel
theorem d_TwinHart_put_24 : decode b_TwinHart_put 24 = .ok (.getfield 30, 3) := by decide +kernel
theorem d_TwinHart_put_27 : decode b_TwinHart_put 27 = .ok (.iload_n 1, 1) := by decide +kernel
theorem d_TwinHart_put_28 : decode b_TwinHart_put 28 = .ok (.aaload, 1) := by decide +kernel
theorem d_TwinHart_put_29 : decode b_TwinHart_put 29 = .ok (.getfield 75, 3) := by decide +kernel
theorem d_TwinHart_put_32 : decode b_TwinHart_put 32 = .ok (.iload_n 2, 1) := by decide +kernel
theorem d_TwinHart_put_33 : decode b_TwinHart_put 33 = .ok (.iload_n 3, 1) := by decide +kernel
theorem d_TwinHart_put_34 : decode b_TwinHart_put 34 = .ok (.invokevirtual 94, 3) := by decide +kernel
theorem d_TwinHart_put_37 : decode b_TwinHart_put 37 = .ok (.iconst 1, 1) := by decide +kernel
theorem d_TwinHart_put_38 : decode b_TwinHart_put 38 = .ok (.ireturn, 1) := by decide +kernel
theorem d_TwinHart_level_0 : decode b_TwinHart_level 0 = .ok (.iload_n 1, 1) := by decide +kernel
theorem d_TwinHart_level_1 : decode b_TwinHart_level 1 = .ok (.invokestatic 46, 3) := by decide +kernel
theorem d_TwinHart_level_4 : decode b_TwinHart_level 4 = .ok (.ifCond .eq 15, 3) := by decide +kernel
theorem d_TwinHart_level_7 : decode b_TwinHart_level 7 = .ok (.aload_n 0, 1) := by decide +kernel
theorem d_TwinHart_level_8 : decode b_TwinHart_level 8 = .ok (.getfield 30, 3) := by decide +kernel
theorem d_TwinHart_level_11 : decode b_TwinHart_level 11 = .ok (.iload_n 1, 1) := by decide +kernel
theorem d_TwinHart_level_12 : decode b_TwinHart_level 12 = .ok (.aaload, 1) := by decide +kernel
theorem d_TwinHart_level_13 : decode b_TwinHart_level 13 = .ok (.getfield 98, 3) := by decide +kernel
theorem d_TwinHart_level_16 : decode b_TwinHart_level 16 = .ok (.goto 4, 3) := by decide +kernel
theorem d_TwinHart_level_19 : decode b_TwinHart_level 19 = .ok (.iconst (-1), 1) := by decide +kernel
theorem d_TwinHart_level_20 : decode b_TwinHart_level 20 = .ok (.ireturn, 1) := by decide +kernel
theorem d_TwinHart_size_0 : decode b_TwinHart_size 0 = .ok (.aload_n 0, 1) := by decide +kernel
theorem d_TwinHart_size_1 : decode b_TwinHart_size 1 = .ok (.getfield 23, 3) := by decide +kernel
theorem d_TwinHart_size_4 : decode b_TwinHart_size 4 = .ok (.getfield 101, 3) := by decide +kernel
theorem d_TwinHart_size_7 : decode b_TwinHart_size 7 = .ok (.ireturn, 1) := by decide +kernel
theorem d_TwinHart_out_0 : decode b_TwinHart_out 0 = .ok (.iload_n 1, 1) := by decide +kernel
theorem d_TwinHart_out_1 : decode b_TwinHart_out 1 = .ok (.ifCond .lt 30, 3) := by decide +kernel
theorem d_TwinHart_out_4 : decode b_TwinHart_out 4 = .ok (.iload_n 1, 1) := by decide +kernel
theorem d_TwinHart_out_5 : decode b_TwinHart_out 5 = .ok (.aload_n 0, 1) := by decide +kernel
theorem d_TwinHart_out_6 : decode b_TwinHart_out 6 = .ok (.getfield 23, 3) := by decide +kernel
theorem d_TwinHart_out_9 : decode b_TwinHart_out 9 = .ok (.getfield 101, 3) := by decide +kernel
theorem d_TwinHart_out_12 : decode b_TwinHart_out 12 = .ok (.if_icmp .ge 19, 3) := by decide +kernel
theorem d_TwinHart_out_15 : decode b_TwinHart_out 15 = .ok (.aload_n 0, 1) := by decide +kernel
theorem d_TwinHart_out_16 : decode b_TwinHart_out 16 = .ok (.getfield 23, 3) := by decide +kernel
theorem d_TwinHart_out_19 : decode b_TwinHart_out 19 = .ok (.getfield 104, 3) := by decide +kernel
theorem d_TwinHart_out_22 : decode b_TwinHart_out 22 = .ok (.iload_n 1, 1) := by decide +kernel
theorem d_TwinHart_out_23 : decode b_TwinHart_out 23 = .ok (.baload, 1) := by decide +kernel
theorem d_TwinHart_out_24 : decode b_TwinHart_out 24 = .ok (.sipush 255, 3) := by decide +kernel
theorem d_TwinHart_out_27 : decode b_TwinHart_out 27 = .ok (.iand, 1) := by decide +kernel
theorem d_TwinHart_out_28 : decode b_TwinHart_out 28 = .ok (.goto 4, 3) := by decide +kernel
theorem d_TwinHart_out_31 : decode b_TwinHart_out 31 = .ok (.iconst (-1), 1) := by decide +kernel
theorem d_TwinHart_out_32 : decode b_TwinHart_out 32 = .ok (.ireturn, 1) := by decide +kernel
