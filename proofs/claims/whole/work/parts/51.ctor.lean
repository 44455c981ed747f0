theorem mw_Clint_init : MW y_Clint_init b_Clint_init 1 none 0 := ⟨tb_m 38 (by decide +kernel) rfl, tb_m 4 (by decide +kernel) rfl, by decide +kernel, by decide +kernel, by decide +kernel⟩
theorem mi_Clint_init : Cond.instanceMethod y_Clint_init ∈ tb := tb_m 37 (by decide +kernel) rfl
theorem mw_Csrs_init : MW y_Csrs_init b_Csrs_init 2 none 1 := ⟨tb_m 86 (by decide +kernel) rfl, tb_m 6 (by decide +kernel) rfl, by decide +kernel, by decide +kernel, by decide +kernel⟩
theorem mi_Csrs_init : Cond.instanceMethod y_Csrs_init ∈ tb := tb_m 85 (by decide +kernel) rfl
theorem mw_Hart_init : MW y_Hart_init b_Hart_init 2 none 1 := ⟨tb_m 79 (by decide +kernel) rfl, tb_m 5 (by decide +kernel) rfl, by decide +kernel, by decide +kernel, by decide +kernel⟩
theorem mi_Hart_init : Cond.instanceMethod y_Hart_init ∈ tb := tb_m 78 (by decide +kernel) rfl
theorem mw_Memory_init : MW y_Memory_init b_Memory_init 2 none 1 := ⟨tb_m 32 (by decide +kernel) rfl, tb_m 2 (by decide +kernel) rfl, by decide +kernel, by decide +kernel, by decide +kernel⟩
theorem mi_Memory_init : Cond.instanceMethod y_Memory_init ∈ tb := tb_m 31 (by decide +kernel) rfl
theorem mw_TwinHart_init : MW y_TwinHart_init b_TwinHart_init 2 none 1 := ⟨tb_m 18 (by decide +kernel) rfl, tb_m 1 (by decide +kernel) rfl, by decide +kernel, by decide +kernel, by decide +kernel⟩
theorem mi_TwinHart_init : Cond.instanceMethod y_TwinHart_init ∈ tb := tb_m 17 (by decide +kernel) rfl
theorem mw_Model_init : MW y_Model_init b_Model_init 2 none 1 := ⟨tb_m 617 (by decide +kernel) rfl, tb_m 7 (by decide +kernel) rfl, by decide +kernel, by decide +kernel, by decide +kernel⟩
theorem mi_Model_init : Cond.instanceMethod y_Model_init ∈ tb := tb_m 616 (by decide +kernel) rfl
theorem k_2 : (.initialized R_Memory : Cond) ∈ tb := tb_m 2 (by decide +kernel) rfl
theorem k_4 : (.initialized R_Clint : Cond) ∈ tb := tb_m 4 (by decide +kernel) rfl
theorem k_5 : (.initialized R_Hart : Cond) ∈ tb := tb_m 5 (by decide +kernel) rfl
theorem k_6 : (.initialized R_Csrs : Cond) ∈ tb := tb_m 6 (by decide +kernel) rfl
theorem k_19 : (.methodLink R_TwinHart 1 objectInit : Cond) ∈ tb := tb_m 19 (by decide +kernel) rfl
theorem k_22 : (.classLink R_TwinHart 7 R_Memory : Cond) ∈ tb := tb_m 22 (by decide +kernel) rfl
theorem k_23 : (.instantiable R_Memory 5 : Cond) ∈ tb := tb_m 23 (by decide +kernel) rfl
theorem k_24 : (.methodLink R_TwinHart 11 Lib.Math.min.name : Cond) ∈ tb := tb_m 24 (by decide +kernel) rfl
theorem k_27 : (.methodLink R_TwinHart 17 Lib.Math.max.name : Cond) ∈ tb := tb_m 27 (by decide +kernel) rfl
theorem k_30 : (.methodLink R_TwinHart 20 y_Memory_init : Cond) ∈ tb := tb_m 30 (by decide +kernel) rfl
theorem k_33 : (.methodLink R_Memory 3 objectInit : Cond) ∈ tb := tb_m 33 (by decide +kernel) rfl
theorem k_34 : (.classLink R_Memory 9 R_Clint : Cond) ∈ tb := tb_m 34 (by decide +kernel) rfl
theorem k_35 : (.instantiable R_Clint 1 : Cond) ∈ tb := tb_m 35 (by decide +kernel) rfl
theorem k_36 : (.methodLink R_Memory 11 y_Clint_init : Cond) ∈ tb := tb_m 36 (by decide +kernel) rfl
theorem k_39 : (.methodLink R_Clint 3 objectInit : Cond) ∈ tb := tb_m 39 (by decide +kernel) rfl
theorem k_40 : (.methodLink R_Clint 15 y_Clint_restart : Cond) ∈ tb := tb_m 40 (by decide +kernel) rfl
theorem k_74 : (.classLink R_TwinHart 27 R_Hart : Cond) ∈ tb := tb_m 74 (by decide +kernel) rfl
theorem k_76 : (.instantiable R_Hart 6 : Cond) ∈ tb := tb_m 76 (by decide +kernel) rfl
theorem k_77 : (.methodLink R_TwinHart 29 y_Hart_init : Cond) ∈ tb := tb_m 77 (by decide +kernel) rfl
theorem k_80 : (.methodLink R_Hart 3 objectInit : Cond) ∈ tb := tb_m 80 (by decide +kernel) rfl
theorem k_82 : (.classLink R_Hart 29 R_Csrs : Cond) ∈ tb := tb_m 82 (by decide +kernel) rfl
theorem k_83 : (.instantiable R_Csrs 17 : Cond) ∈ tb := tb_m 83 (by decide +kernel) rfl
theorem k_84 : (.methodLink R_Hart 31 y_Csrs_init : Cond) ∈ tb := tb_m 84 (by decide +kernel) rfl
theorem k_87 : (.methodLink R_Csrs 5 objectInit : Cond) ∈ tb := tb_m 87 (by decide +kernel) rfl
theorem k_618 : (.methodLink R_Model 1 objectInit : Cond) ∈ tb := tb_m 618 (by decide +kernel) rfl
theorem ko_1 : (.instanceMethod objectInit : Cond) ∈ tb := tb_m 20 (by decide +kernel) rfl
theorem ko_2 : (.code objectInit ⟨#[0xb1]⟩ 1 none : Cond) ∈ tb := tb_m 21 (by decide +kernel) rfl
theorem ka_int : (.arrayClass .int : Cond) ∈ tb := tb_m 49 (by decide +kernel) rfl
theorem ka_byte : (.arrayClass .byte : Cond) ∈ tb := tb_m 72 (by decide +kernel) rfl
theorem ka_long : (.arrayClass .long : Cond) ∈ tb := tb_m 73 (by decide +kernel) rfl
theorem d_Clint_init_0 : decode b_Clint_init 0 = .ok (.aload_n 0, 1) := by decide +kernel
theorem d_Clint_init_1 : decode b_Clint_init 1 = .ok (.invokespecial 3, 3) := by decide +kernel
theorem d_Clint_init_4 : decode b_Clint_init 4 = .ok (.aload_n 0, 1) := by decide +kernel
theorem d_Clint_init_5 : decode b_Clint_init 5 = .ok (.bipush 8, 2) := by decide +kernel
theorem d_Clint_init_7 : decode b_Clint_init 7 = .ok (.newarray .int, 2) := by decide +kernel
theorem d_Clint_init_9 : decode b_Clint_init 9 = .ok (.putfield 9, 3) := by decide +kernel
theorem d_Clint_init_12 : decode b_Clint_init 12 = .ok (.aload_n 0, 1) := by decide +kernel
theorem d_Clint_init_13 : decode b_Clint_init 13 = .ok (.invokevirtual 15, 3) := by decide +kernel
theorem d_Clint_init_16 : decode b_Clint_init 16 = .ok (.return_, 1) := by decide +kernel
theorem d_Csrs_init_0 : decode b_Csrs_init 0 = .ok (.aload_n 0, 1) := by decide +kernel
theorem d_Csrs_init_1 : decode b_Csrs_init 1 = .ok (.invokespecial 5, 3) := by decide +kernel
theorem d_Csrs_init_4 : decode b_Csrs_init 4 = .ok (.aload_n 0, 1) := by decide +kernel
theorem d_Csrs_init_5 : decode b_Csrs_init 5 = .ok (.iload_n 1, 1) := by decide +kernel
theorem d_Csrs_init_6 : decode b_Csrs_init 6 = .ok (.putfield 11, 3) := by decide +kernel
theorem d_Csrs_init_9 : decode b_Csrs_init 9 = .ok (.return_, 1) := by decide +kernel
theorem d_Hart_init_0 : decode b_Hart_init 0 = .ok (.aload_n 0, 1) := by decide +kernel
theorem d_Hart_init_1 : decode b_Hart_init 1 = .ok (.invokespecial 3, 3) := by decide +kernel
theorem d_Hart_init_4 : decode b_Hart_init 4 = .ok (.aload_n 0, 1) := by decide +kernel
theorem d_Hart_init_5 : decode b_Hart_init 5 = .ok (.bipush 32, 2) := by decide +kernel
theorem d_Hart_init_7 : decode b_Hart_init 7 = .ok (.newarray .int, 2) := by decide +kernel
theorem d_Hart_init_9 : decode b_Hart_init 9 = .ok (.putfield 9, 3) := by decide +kernel
theorem d_Hart_init_12 : decode b_Hart_init 12 = .ok (.aload_n 0, 1) := by decide +kernel
theorem d_Hart_init_13 : decode b_Hart_init 13 = .ok (.ldc 15, 2) := by decide +kernel
theorem d_Hart_init_15 : decode b_Hart_init 15 = .ok (.putfield 16, 3) := by decide +kernel
theorem d_Hart_init_18 : decode b_Hart_init 18 = .ok (.aload_n 0, 1) := by decide +kernel
theorem d_Hart_init_19 : decode b_Hart_init 19 = .ok (.iconst 3, 1) := by decide +kernel
theorem d_Hart_init_20 : decode b_Hart_init 20 = .ok (.putfield 20, 3) := by decide +kernel
theorem d_Hart_init_23 : decode b_Hart_init 23 = .ok (.aload_n 0, 1) := by decide +kernel
theorem d_Hart_init_24 : decode b_Hart_init 24 = .ok (.iconst 0, 1) := by decide +kernel
theorem d_Hart_init_25 : decode b_Hart_init 25 = .ok (.putfield 23, 3) := by decide +kernel
theorem d_Hart_init_28 : decode b_Hart_init 28 = .ok (.aload_n 0, 1) := by decide +kernel
theorem d_Hart_init_29 : decode b_Hart_init 29 = .ok (.iload_n 1, 1) := by decide +kernel
theorem d_Hart_init_30 : decode b_Hart_init 30 = .ok (.putfield 26, 3) := by decide +kernel
theorem d_Hart_init_33 : decode b_Hart_init 33 = .ok (.aload_n 0, 1) := by decide +kernel
theorem d_Hart_init_34 : decode b_Hart_init 34 = .ok (.new 29, 3) := by decide +kernel
theorem d_Hart_init_37 : decode b_Hart_init 37 = .ok (.dup, 1) := by decide +kernel
theorem d_Hart_init_38 : decode b_Hart_init 38 = .ok (.iload_n 1, 1) := by decide +kernel
theorem d_Hart_init_39 : decode b_Hart_init 39 = .ok (.invokespecial 31, 3) := by decide +kernel
theorem d_Hart_init_42 : decode b_Hart_init 42 = .ok (.putfield 34, 3) := by decide +kernel
theorem d_Hart_init_45 : decode b_Hart_init 45 = .ok (.return_, 1) := by decide +kernel
theorem d_Memory_init_0 : decode b_Memory_init 0 = .ok (.aload_n 0, 1) := by decide +kernel
theorem d_Memory_init_1 : decode b_Memory_init 1 = .ok (.invokespecial 3, 3) := by decide +kernel
theorem d_Memory_init_4 : decode b_Memory_init 4 = .ok (.aload_n 0, 1) := by decide +kernel
theorem d_Memory_init_5 : decode b_Memory_init 5 = .ok (.new 9, 3) := by decide +kernel
theorem d_Memory_init_8 : decode b_Memory_init 8 = .ok (.dup, 1) := by decide +kernel
theorem d_Memory_init_9 : decode b_Memory_init 9 = .ok (.invokespecial 11, 3) := by decide +kernel
theorem d_Memory_init_12 : decode b_Memory_init 12 = .ok (.putfield 12, 3) := by decide +kernel
theorem d_Memory_init_15 : decode b_Memory_init 15 = .ok (.aload_n 0, 1) := by decide +kernel
theorem d_Memory_init_16 : decode b_Memory_init 16 = .ok (.sipush 256, 3) := by decide +kernel
theorem d_Memory_init_19 : decode b_Memory_init 19 = .ok (.newarray .byte, 2) := by decide +kernel
theorem d_Memory_init_21 : decode b_Memory_init 21 = .ok (.putfield 18, 3) := by decide +kernel
theorem d_Memory_init_24 : decode b_Memory_init 24 = .ok (.aload_n 0, 1) := by decide +kernel
theorem d_Memory_init_25 : decode b_Memory_init 25 = .ok (.iconst 0, 1) := by decide +kernel
theorem d_Memory_init_26 : decode b_Memory_init 26 = .ok (.putfield 22, 3) := by decide +kernel
theorem d_Memory_init_29 : decode b_Memory_init 29 = .ok (.aload_n 0, 1) := by decide +kernel
theorem d_Memory_init_30 : decode b_Memory_init 30 = .ok (.iconst 2, 1) := by decide +kernel
theorem d_Memory_init_31 : decode b_Memory_init 31 = .ok (.newarray .long, 2) := by decide +kernel
theorem d_Memory_init_33 : decode b_Memory_init 33 = .ok (.dup, 1) := by decide +kernel
theorem d_Memory_init_34 : decode b_Memory_init 34 = .ok (.iconst 0, 1) := by decide +kernel
theorem d_Memory_init_35 : decode b_Memory_init 35 = .ok (.ldc2_w 26, 3) := by decide +kernel
theorem d_Memory_init_38 : decode b_Memory_init 38 = .ok (.lastore, 1) := by decide +kernel
theorem d_Memory_init_39 : decode b_Memory_init 39 = .ok (.dup, 1) := by decide +kernel
theorem d_Memory_init_40 : decode b_Memory_init 40 = .ok (.iconst 1, 1) := by decide +kernel
theorem d_Memory_init_41 : decode b_Memory_init 41 = .ok (.ldc2_w 26, 3) := by decide +kernel
theorem d_Memory_init_44 : decode b_Memory_init 44 = .ok (.lastore, 1) := by decide +kernel
theorem d_Memory_init_45 : decode b_Memory_init 45 = .ok (.putfield 28, 3) := by decide +kernel
theorem d_Memory_init_48 : decode b_Memory_init 48 = .ok (.aload_n 0, 1) := by decide +kernel
theorem d_Memory_init_49 : decode b_Memory_init 49 = .ok (.iload_n 1, 1) := by decide +kernel
theorem d_Memory_init_50 : decode b_Memory_init 50 = .ok (.newarray .int, 2) := by decide +kernel
theorem d_Memory_init_52 : decode b_Memory_init 52 = .ok (.putfield 32, 3) := by decide +kernel
theorem d_Memory_init_55 : decode b_Memory_init 55 = .ok (.return_, 1) := by decide +kernel
theorem d_TwinHart_init_0 : decode b_TwinHart_init 0 = .ok (.aload_n 0, 1) := by decide +kernel
theorem d_TwinHart_init_1 : decode b_TwinHart_init 1 = .ok (.invokespecial 1, 3) := by decide +kernel
theorem d_TwinHart_init_4 : decode b_TwinHart_init 4 = .ok (.aload_n 0, 1) := by decide +kernel
theorem d_TwinHart_init_5 : decode b_TwinHart_init 5 = .ok (.new 7, 3) := by decide +kernel
theorem d_TwinHart_init_8 : decode b_TwinHart_init 8 = .ok (.dup, 1) := by decide +kernel
theorem d_TwinHart_init_9 : decode b_TwinHart_init 9 = .ok (.bipush 16, 2) := by decide +kernel
theorem d_TwinHart_init_11 : decode b_TwinHart_init 11 = .ok (.iload_n 1, 1) := by decide +kernel
theorem d_TwinHart_init_12 : decode b_TwinHart_init 12 = .ok (.sipush 4096, 3) := by decide +kernel
theorem d_TwinHart_init_15 : decode b_TwinHart_init 15 = .ok (.invokestatic 11, 3) := by decide +kernel
theorem d_TwinHart_init_18 : decode b_TwinHart_init 18 = .ok (.invokestatic 17, 3) := by decide +kernel
theorem d_TwinHart_init_21 : decode b_TwinHart_init 21 = .ok (.invokespecial 20, 3) := by decide +kernel
theorem d_TwinHart_init_24 : decode b_TwinHart_init 24 = .ok (.putfield 23, 3) := by decide +kernel
theorem d_TwinHart_init_27 : decode b_TwinHart_init 27 = .ok (.aload_n 0, 1) := by decide +kernel
theorem d_TwinHart_init_28 : decode b_TwinHart_init 28 = .ok (.iconst 2, 1) := by decide +kernel
theorem d_TwinHart_init_29 : decode b_TwinHart_init 29 = .ok (.anewarray 27, 3) := by decide +kernel
theorem d_TwinHart_init_32 : decode b_TwinHart_init 32 = .ok (.dup, 1) := by decide +kernel
theorem d_TwinHart_init_33 : decode b_TwinHart_init 33 = .ok (.iconst 0, 1) := by decide +kernel
theorem d_TwinHart_init_34 : decode b_TwinHart_init 34 = .ok (.new 27, 3) := by decide +kernel
theorem d_TwinHart_init_37 : decode b_TwinHart_init 37 = .ok (.dup, 1) := by decide +kernel
theorem d_TwinHart_init_38 : decode b_TwinHart_init 38 = .ok (.iconst 0, 1) := by decide +kernel
theorem d_TwinHart_init_39 : decode b_TwinHart_init 39 = .ok (.invokespecial 29, 3) := by decide +kernel
theorem d_TwinHart_init_42 : decode b_TwinHart_init 42 = .ok (.aastore, 1) := by decide +kernel
theorem d_TwinHart_init_43 : decode b_TwinHart_init 43 = .ok (.dup, 1) := by decide +kernel
theorem d_TwinHart_init_44 : decode b_TwinHart_init 44 = .ok (.iconst 1, 1) := by decide +kernel
theorem d_TwinHart_init_45 : decode b_TwinHart_init 45 = .ok (.new 27, 3) := by decide +kernel
theorem d_TwinHart_init_48 : decode b_TwinHart_init 48 = .ok (.dup, 1) := by decide +kernel
theorem d_TwinHart_init_49 : decode b_TwinHart_init 49 = .ok (.iconst 1, 1) := by decide +kernel
theorem d_TwinHart_init_50 : decode b_TwinHart_init 50 = .ok (.invokespecial 29, 3) := by decide +kernel
theorem d_TwinHart_init_53 : decode b_TwinHart_init 53 = .ok (.aastore, 1) := by decide +kernel
theorem d_TwinHart_init_54 : decode b_TwinHart_init 54 = .ok (.putfield 30, 3) := by decide +kernel
theorem d_TwinHart_init_57 : decode b_TwinHart_init 57 = .ok (.return_, 1) := by decide +kernel
theorem d_Model_init_0 : decode b_Model_init 0 = .ok (.aload_n 0, 1) := by decide +kernel
theorem d_Model_init_1 : decode b_Model_init 1 = .ok (.invokespecial 1, 3) := by decide +kernel
theorem d_Model_init_4 : decode b_Model_init 4 = .ok (.aload_n 0, 1) := by decide +kernel
theorem d_Model_init_5 : decode b_Model_init 5 = .ok (.sipush 16384, 3) := by decide +kernel
theorem d_Model_init_8 : decode b_Model_init 8 = .ok (.newarray .byte, 2) := by decide +kernel
theorem d_Model_init_10 : decode b_Model_init 10 = .ok (.putfield 7, 3) := by decide +kernel
theorem d_Model_init_13 : decode b_Model_init 13 = .ok (.aload_n 0, 1) := by decide +kernel
theorem d_Model_init_14 : decode b_Model_init 14 = .ok (.bipush 64, 2) := by decide +kernel
theorem d_Model_init_16 : decode b_Model_init 16 = .ok (.newarray .int, 2) := by decide +kernel
theorem d_Model_init_18 : decode b_Model_init 18 = .ok (.putfield 13, 3) := by decide +kernel
theorem d_Model_init_21 : decode b_Model_init 21 = .ok (.aload_n 0, 1) := by decide +kernel
theorem d_Model_init_22 : decode b_Model_init 22 = .ok (.iconst 2, 1) := by decide +kernel
theorem d_Model_init_23 : decode b_Model_init 23 = .ok (.newarray .int, 2) := by decide +kernel
theorem d_Model_init_25 : decode b_Model_init 25 = .ok (.putfield 17, 3) := by decide +kernel
theorem d_Model_init_28 : decode b_Model_init 28 = .ok (.aload_n 0, 1) := by decide +kernel
theorem d_Model_init_29 : decode b_Model_init 29 = .ok (.iconst 2, 1) := by decide +kernel
theorem d_Model_init_30 : decode b_Model_init 30 = .ok (.newarray .int, 2) := by decide +kernel
theorem d_Model_init_32 : decode b_Model_init 32 = .ok (.putfield 20, 3) := by decide +kernel
theorem d_Model_init_35 : decode b_Model_init 35 = .ok (.aload_n 0, 1) := by decide +kernel
theorem d_Model_init_36 : decode b_Model_init 36 = .ok (.sipush 8192, 3) := by decide +kernel
theorem d_Model_init_39 : decode b_Model_init 39 = .ok (.newarray .int, 2) := by decide +kernel
theorem d_Model_init_41 : decode b_Model_init 41 = .ok (.putfield 23, 3) := by decide +kernel
theorem d_Model_init_44 : decode b_Model_init 44 = .ok (.aload_n 0, 1) := by decide +kernel
theorem d_Model_init_45 : decode b_Model_init 45 = .ok (.iconst 2, 1) := by decide +kernel
theorem d_Model_init_46 : decode b_Model_init 46 = .ok (.newarray .int, 2) := by decide +kernel
theorem d_Model_init_48 : decode b_Model_init 48 = .ok (.putfield 26, 3) := by decide +kernel
theorem d_Model_init_51 : decode b_Model_init 51 = .ok (.aload_n 0, 1) := by decide +kernel
theorem d_Model_init_52 : decode b_Model_init 52 = .ok (.iconst 2, 1) := by decide +kernel
theorem d_Model_init_53 : decode b_Model_init 53 = .ok (.newarray .long, 2) := by decide +kernel
theorem d_Model_init_55 : decode b_Model_init 55 = .ok (.putfield 29, 3) := by decide +kernel
theorem d_Model_init_58 : decode b_Model_init 58 = .ok (.aload_n 0, 1) := by decide +kernel
theorem d_Model_init_59 : decode b_Model_init 59 = .ok (.iconst 2, 1) := by decide +kernel
theorem d_Model_init_60 : decode b_Model_init 60 = .ok (.newarray .int, 2) := by decide +kernel
theorem d_Model_init_62 : decode b_Model_init 62 = .ok (.putfield 33, 3) := by decide +kernel
theorem d_Model_init_65 : decode b_Model_init 65 = .ok (.aload_n 0, 1) := by decide +kernel
theorem d_Model_init_66 : decode b_Model_init 66 = .ok (.sipush 256, 3) := by decide +kernel
theorem d_Model_init_69 : decode b_Model_init 69 = .ok (.newarray .int, 2) := by decide +kernel
theorem d_Model_init_71 : decode b_Model_init 71 = .ok (.putfield 36, 3) := by decide +kernel
theorem d_Model_init_74 : decode b_Model_init 74 = .ok (.aload_n 0, 1) := by decide +kernel
theorem d_Model_init_75 : decode b_Model_init 75 = .ok (.iload_n 1, 1) := by decide +kernel
theorem d_Model_init_76 : decode b_Model_init 76 = .ok (.bipush 16, 2) := by decide +kernel
theorem d_Model_init_78 : decode b_Model_init 78 = .ok (.if_icmp .ge 8, 3) := by decide +kernel
theorem d_Model_init_81 : decode b_Model_init 81 = .ok (.bipush 16, 2) := by decide +kernel
theorem d_Model_init_83 : decode b_Model_init 83 = .ok (.goto 17, 3) := by decide +kernel
theorem d_Model_init_86 : decode b_Model_init 86 = .ok (.iload_n 1, 1) := by decide +kernel
theorem d_Model_init_87 : decode b_Model_init 87 = .ok (.sipush 4096, 3) := by decide +kernel
theorem d_Model_init_90 : decode b_Model_init 90 = .ok (.if_icmp .le 9, 3) := by decide +kernel
theorem d_Model_init_93 : decode b_Model_init 93 = .ok (.sipush 4096, 3) := by decide +kernel
theorem d_Model_init_96 : decode b_Model_init 96 = .ok (.goto 4, 3) := by decide +kernel
theorem d_Model_init_99 : decode b_Model_init 99 = .ok (.iload_n 1, 1) := by decide +kernel
theorem d_Model_init_100 : decode b_Model_init 100 = .ok (.putfield 39, 3) := by decide +kernel
theorem d_Model_init_103 : decode b_Model_init 103 = .ok (.aload_n 0, 1) := by decide +kernel
theorem d_Model_init_104 : decode b_Model_init 104 = .ok (.invokevirtual 43, 3) := by decide +kernel
theorem d_Model_init_107 : decode b_Model_init 107 = .ok (.return_, 1) := by decide +kernel
-- ===== constructors: they make cells =====
def BI {S : Type} (D : va_G) (W1 : S → va_W) (ty1 : S → List (ClassId × FieldType)) (A : Nat → Prop) (u : S) (t : State) : Prop := va_P D classes (W1 u) t.heap ∧ va_K D classes (ty1 u) t ∧ va_D A (W1 u)
abbrev rI (d mc ms : Nat) : Room := { frames := d, cells := mc, slots := ms, locals := 48 * d }
def PcI (D : va_G) (g : Nat → Nat) (E : State → Prop) (As : List Value) (ws : va_W) (sz : Nat) : Array Value → State → Prop :=
  va_Pc As (fun U => (U.heap.size = sz ∧ va_P D classes ws U.heap ∧ va_K D classes [] U ∧ va_D (fun _ => True) ws ∧ SF g (va_A ws sz) U U.heap) ∧ E U)
def CI {S : Type} (l : Launch) (D : va_G) (g : Nat → Nat) (E : State → Prop) (y : MethodName) (b : ByteArray) (nL d : Nat) (As : List Value) (ws : va_W) (post : S → Prop) (W1 : S → va_W) (ty1 : S → List (ClassId × FieldType)) (mc ms : Nat) : Prop :=
  ∀ sz : Nat, Met l y (.code y b nL none :: tb) (rI d mc ms) (PcI D g E As ws sz) (va_Qv post (BI D W1 ty1 (va_A ws sz)) (va_A ws sz)) mc ms (va_A ws sz)
section Ctor1
variable {S : Type} {l : Launch} {D : va_G} {g : Nat → Nat} {E : State → Prop} {y : MethodName} {b : ByteArray} {nL d mc ms : Nat} {As : List Value} {ws : va_W} {post : S → Prop} {W1 : S → va_W} {ty1 : S → List (ClassId × FieldType)}
theorem CI.of (hy : plainName y.cls = true) (hy1 : y.name = "<init>") (hn : (lg_sl As).length ≤ nL)
    (body : ∀ (p : Program) (e : Env) (s : State) (m : MethodId) (below : List Frame) (meth : Method) (c : Code) (A : Nat → Prop) (ls : Array Slot), p.tables.exec = Jvm.exec → c.code = b → meth.sig.returnType = none → c.maxLocals = nL → (∀ w ∈ tb, w.before As.toArray s = true) → s.vm.findClass y.cls = some m.cls → meth.locks = false → meth.name = "<init>" → (∀ q : Nat, s.heap.size ≤ q → A q) → va_P D classes ws s.heap → va_K D classes [] s → va_D A ws → SF g A s s.heap → va_S A s.heap s.heap [] → E s → lv_has ls nL (lv_args 0 As) →
      W p l e (rI d mc ms) s m As.toArray below meth c s.heap [] 0 0 (MQ below (va_Qv post (BI D W1 ty1 A) A) As.toArray s mc ms A) (F0 m 0 ls [])) : CI l D g E y b nL d As ws post W1 ty1 mc ms := by
  intro sz
  refine Met.ofW (cc := b) (maxL := nL) (ret := none) hy rfl ?_
  intro p e s m args below meth c s₁ B hml hv
  obtain ⟨rfl, ⟨hsz, hP, hK, hD0, hF⟩, hE⟩ := hv
  have hts := atoms_spec (ws := .code y b nL none :: tb) B.pre
  have hown : s.vm.findClass y.cls = some m.cls := findClass_of_methodNamed B.named
  have hin : meth.name = "<init>" := (name_of_methodNamed B.named B.method).1.trans hy1
  subst hsz
  have hD := hD0.self (sz := s.heap.size)
  have hl := lv_entry As (n := nL) hn
  rw [lg_entry_eq]
  exact body p e s m below meth c _ _ B.exec B.bytes B.returns hml (fun w h => hts w (List.mem_cons_of_mem _ h)) hown B.notSynchronized hin (fun q h => Or.inr h) hP hK hD hF va_S.rf hE hl
end Ctor1
section Ctor2
variable {S : Type} {p : Program} {l : Launch} {e : Env} {R : Room} {s : State} {m : MethodId} {args : Array Value} {below : List Frame} {meth : Method} {c : Code} {H : Heap} {locs : List Loc} {cells slots : Nat} {Q : State → Prop}
variable {D : va_G} {g : Nat → Nat} {E : State → Prop} {y : MethodName} {yb cc : ByteArray} {yn nL index n pc d mc ms : Nat} {As rest st0 : List Value} {ws wc wr : va_W} {tys : List (ClassId × FieldType)} {A : Nat → Prop} {own : String} {ls : Array Slot} {a : Nat} {post : S → Prop} {W1 : S → va_W} {ty1 : S → List (ClassId × FieldType)}
theorem xI (C : CallFix p m c cc nL s args tb own) (hM : CI l D g E y yb yn d (.ref a :: As) wc post W1 ty1 mc ms) (hw : MW y yb yn none n) (hi : Cond.instanceMethod y ∈ tb) (hy1 : y.name = "<init>") (hlink : Cond.methodLink own index y ∈ tb) (hrm : d + 1 ≤ R.frames ∧ 8 + (yn + 11) + 48 * d ≤ R.locals)
    (hE : ∀ U : State, s.WarmedH U.vm → E U) (hEb : ∀ (b : Array Value) (U : State) (g1 : JFrame) (mk : MethodId), E U → E (U.calling g1 mk b))
    (hK : va_K D classes tys s) (hP : va_P D classes ws H) (hD : va_D A ws) (hS : va_S A s.heap H locs) (hA : ∀ q : Nat, s.heap.size ≤ q → A q) (hF : SF g A s s.heap) (isC isR : List Nat) (hC : isC.map (fun i => ws[i]?) = wc.map some) (hnC : va_nd isC = true) (hR : isR.map (fun i => ws[i]?) = wr.map some) (hnR : va_nd isR = true) (hdis : ∀ i ∈ isR, i ∉ isC)
    (hn : As.length = n) (hl : ls.size = nL) (hst : st0 = As.reverse ++ .ref a :: rest) (hcat : (rest.map fun v => v.category).sum ≤ 8) (hdg : decode cc pc = .ok (.invokespecial index, 3)) (hf : cells + mc ≤ R.cells ∧ slots + ms ≤ R.slots)
    (kk : ∀ (u : S) (H1 : Heap) (locs1 : List Loc), post u → va_K D classes (tys ++ ty1 u) s → va_P D classes (wr ++ W1 u) H1 → va_D A (wr ++ W1 u) → va_S A s.heap H1 locs1 → W p l e R s m args below meth c H1 locs1 (cells + mc) (slots + ms) Q (F0 m (pc + 3) ls rest)) : W p l e R s m args below meth c H locs cells slots Q (F0 m pc ls st0) := by
  obtain ⟨hp1, hp2⟩ := x_pre (As := .ref a :: As) (g := g) (tysc := []) hK hP hD hS hA hF isC [] hC hnC rfl
  have hf9 := va_free (wc := wc) hD hS hA isC hC
  have hb1 : FrameBlind (PcI D g E (.ref a :: As) wc H.size) := by
    intro b U g1 mk q
    obtain ⟨q0, q1, q2⟩ := q
    have h1 := hp1 b U g1 mk ⟨q0, q1⟩
    exact ⟨h1.1, h1.2, hEb b U g1 mk q2⟩
  have hb2 : ∀ U : State, U.heap = H → s.WarmedH U.vm → PcI D g E (.ref a :: As) wc H.size (Value.ref a :: As).toArray U := fun U hU hW => ⟨rfl, (hp2 U hU hW).2, hE U hW⟩
  have cb : CallB R s args own index y yb yn none (.code y yb yn none :: tb) (rI d mc ms) mc ms n := callB_of n C.2.2.2.2 (tb_G hw.1) rfl rfl rfl (C.2.2.2.2 _ hw.2.1) (C.2.2.2.2 _ hlink) hw.2.2 hrm
  refine va_callv (va_runI C (hM H.size) ⟨cb, hy1, C.2.2.2.2 _ hi⟩ ⟨hb1, hb2⟩ rfl hn hl hst (lv_room hcat) hdg hf) hS (fun q _ h => hf9 q h) hf9 (fun u t H1 locs1 ht hvm hw1 hB hz hk hS1 => ?_)
  obtain ⟨hP1, hK1, hD1⟩ := hB
  rw [ht] at hP1
  have hK1 := va_K.moved hvm.symm hK1
  obtain ⟨h1, h2⟩ := va_join (wr := wr) (w1 := W1 u) hP hD isC isR hC hR hnR hdis hk hf9 hP1 hD1
  exact kk u H1 locs1 hw1 (hK.app hK1) h1 h2 hS1
theorem rvI (u : S) {k1 n1 : Nat} (hx : p.tables.exec = Jvm.exec) (hb : c.code = cc) (hr : meth.sig.returnType = none) (hlocks : meth.locks = false) (hP : va_P D classes (W1 u) H) (hK : va_K D classes (ty1 u) s) (hD : va_D A (W1 u)) (hS : va_S A s.heap H locs) (hdg : decode cc pc = .ok (.return_, 1)) (hpost : post u) (hc : cells ≤ k1) (hs : slots ≤ n1) : W p l e R s m args below meth c H locs cells slots (MQ below (va_Qv post (BI D W1 ty1 A) A) args s k1 n1 A) (F0 m pc ls []) := by
  refine W.widen hc hs ?_
  exact W.vret hx hb hr (fun t ht hW => ⟨⟨u, rfl, hpost, by rw [ht]; exact hP, va_K.moved hW.alike hK, hD⟩, hS.F ht⟩) hS.2.2 hdg hlocks
theorem y_putF (hexec : p.tables.exec = Jvm.exec) (hb : c.code = cc) {own ref C : String} {T : u_T} {N ci index : Nat} {Ts : List Cond} (hts : ∀ w ∈ Ts, w.before args s = true) (hin : ∀ w ∈ u_ws C T N, w ∈ Ts) (ty0 : Nat → FieldType) (hty : ∀ k, k < N → parseFieldDescriptor (T k).2.2.1 = some (ty0 k)) (hnm : ∀ a, a < N → ∀ b, b < N → a ≠ b → (T a).2.1 ≠ (T b).2.1) (hown : s.vm.findClass own = some m.cls) (hK : va_K D classes tys s) (hP : va_P D classes ws H) (hD : va_D A ws) (hS0 : va_S A s.heap H locs) (q0 : Nat) {fs : List Value} (he : ws[q0]? = some (a, .inr (ci, fs))) (hc : classes[ci]? = some (C, T, N)) (k : Nat) (hk : k < N) (hlink : (Cond.fieldLink own index ref (T k).2.1 (T k).2.2.1).before args s = true) (hsame : ∀ x, s.fieldFound? (T k).1 (T k).2.1 (T k).2.2.1 = some x → s.fieldFound? ref (T k).2.1 (T k).2.2.1 = some x) (hfin : (T k).2.2.2 = true) (hin2 : meth.name = "<init>") (hdecl : (T k).1 = own) {ty : FieldType} {v : Value} (hd : parseFieldDescriptor (T k).2.2.1 = some ty) (hn : narrow ty v = v) (hfit : fits ty v = true) (hl : k < fs.length) {ws' : va_W}
    (hdg : decode cc pc = .ok (.putfield index, 3)) (hw : ws.set q0 (a, .inr (ci, fs.set k v)) = ws') (kk : ∀ (H1 : Heap) (locs1 : List Loc), va_P D classes ws' H1 → va_D A ws' → va_S A s.heap H1 locs1 → W p l e R s m args below meth c H1 locs1 cells slots Q (F0 m (pc + 3) ls rest)) : W p l e R s m args below meth c H locs cells slots Q (F0 m pc ls (v :: .ref a :: rest)) := by
  subst hw
  exact va_putF hexec hb hts hin ty0 hty hnm hown hK hP hD hS0 q0 he hc k hk hlink hsame hfin hin2 hdecl hd hn hfit hl hdg kk
end Ctor2
abbrev hA0 (h : Nat) (a : Nat → Nat) : Nat → Nat := fun i => if i = 0 then h else a i
abbrev hA6 (h : Nat) (a : Nat → Nat) : Nat → Nat := fun i => if i = 6 then h else a i
def csr0 (id : Int32) : Nat → Int32 := fun i => if i = 0 then id else 0
abbrev mem0 : TM := (sp_Clint_restart (fun _ => 0), (fun _ => 0), (fun _ => 0), 0, vp_updL (vp_updL (fun _ => 0) 0 (-1)) 1 (-1))
abbrev hs0 (id : Int32) : HS := ((fun _ => 0), (-2147483648), 3, 0, csr0 id)
abbrev top0 : TT := (mem0, hs0 0, hs0 1)
abbrev ctT : Type := Nat × ClassId × (Nat → Nat) × (Nat → Nat) × (Nat → Nat) × (Nat → ClassId) × (Nat → ClassId) × (Nat → ClassId)
/-- how many words a machine has that was asked for with x -/
def nW (x : Int32) : Nat := if 16 ≤ x then (if x ≤ 4096 then x.toNatClampNeg else 4096) else 16
theorem nW_small {x : Int32} (h : ¬ 16 ≤ x) : nW x = 16 := by unfold nW; rw [if_neg h]
theorem nW_big {x : Int32} (h : 16 ≤ x) (h2 : ¬ x ≤ 4096) : nW x = 4096 := by unfold nW; rw [if_pos h, if_neg h2]
theorem nW_ex (x : Int32) (h : 16 ≤ x) (h2 : x ≤ 4096) : ∃ j, 16 ≤ j ∧ j ≤ 4096 ∧ x = nI j ∧ nW x = j := by
  have h0 : ¬ x < 0 := by
    rw [Int32.lt_iff_toInt_lt]
    rw [Int32.le_iff_toInt_le] at h
    have e1 : (16 : Int32).toInt = 16 := rfl
    have e2 : (0 : Int32).toInt = 0 := rfl
    omega
  obtain ⟨j, hj, rfl⟩ := nI_of h0
  have a1 := (nI_leI (a := 16) (b := j) (by decide) hj).mp h
  have a2 := (nI_leI (a := j) (b := 4096) hj (by decide)).mp h2
  refine ⟨j, a1, a2, rfl, ?_⟩
  unfold nW
  rw [if_pos h, if_pos h2, nI_clamp hj]
theorem nW_mid {x : Int32} (h : 16 ≤ x) (h2 : x ≤ 4096) : nI (nW x) = x := by
  obtain ⟨j, -, -, e, e2⟩ := nW_ex x h h2
  rw [e2, e]
theorem nW_ge (x : Int32) : 16 ≤ nW x := by
  by_cases h : 16 ≤ x
  · by_cases h2 : x ≤ 4096
    · obtain ⟨j, a1, -, -, e2⟩ := nW_ex x h h2
      omega
    · rw [nW_big h h2]; decide
  · rw [nW_small h]; decide
theorem nW_le (x : Int32) : nW x ≤ 4096 := by
  by_cases h : 16 ≤ x
  · by_cases h2 : x ≤ 4096
    · obtain ⟨j, -, a1, -, e2⟩ := nW_ex x h h2
      omega
    · rw [nW_big h h2]; decide
  · rw [nW_small h]; decide
theorem nW_eq (x : Int32) : (if (16 : Int32) < (if 4096 < x then 4096 else x) then (if 4096 < x then 4096 else x) else 16) = nI (nW x) := by
  by_cases h : 16 ≤ x
  · by_cases h2 : x ≤ 4096
    · have q : ¬ (4096 : Int32) < x := by
        rw [Int32.lt_iff_toInt_lt]; rw [Int32.le_iff_toInt_le] at h2; omega
      rw [if_neg q, nW_mid h h2]
      by_cases q2 : (16 : Int32) < x
      · rw [if_pos q2]
      · rw [if_neg q2]
        apply Int32.toInt_inj.mp
        rw [Int32.lt_iff_toInt_lt] at q2
        rw [Int32.le_iff_toInt_le] at h
        omega
    · have q : (4096 : Int32) < x := by
        rw [Int32.lt_iff_toInt_lt]; rw [Int32.le_iff_toInt_le] at h2; omega
      rw [if_pos q, nW_big h h2]
      decide
  · have q : ¬ (4096 : Int32) < x := by
      rw [Int32.lt_iff_toInt_lt]; rw [Int32.le_iff_toInt_le] at h
      have e1 : (16 : Int32).toInt = 16 := rfl
      have e2 : (4096 : Int32).toInt = 4096 := rfl
      omega
    have q2 : ¬ (16 : Int32) < x := by
      rw [Int32.lt_iff_toInt_lt]; rw [Int32.le_iff_toInt_le] at h; omega
    rw [if_neg q, if_neg q2, nW_small h]
    rfl
set_option maxHeartbeats 4000000 in
set_option maxRecDepth 100000 in
theorem c_Clint_init {l : Launch} {D : va_G} {g : Nat → Nat} (h0 : Nat) : CI l D g (fun _ => True) y_Clint_init b_Clint_init 1 1 [.ref h0] [(h0, .inr (2, [.null]))] (fun u : Nat × ClassId => True) (fun u => [(h0, .inr (2, [.ref u.1])), (u.1, .inl (u.2, 8, .inl (sp_Clint_restart (fun _ => 0))))]) (fun u => [(u.2, .int)]) 1 8 := by
  refine CI.of rfl rfl (Nat.le_of_ble_eq_true rfl) (fun p e s m below meth c A ls hx hb hr hml hts hown hlocks hin hA hP hK hD hF hS hE hl => ?_)
  have hl : lv_has ls 1 [(0, .ref h0)] := hl
  refine lv_aload_n hx hb d_Clint_init_0 rfl (lv_at hl 0 rfl) ?_
  refine W.objInit hx hb hown (hts _ k_39) (hts _ ko_1) (hts _ ko_2) rfl (by rw [hml]; exact hl.1) rfl d_Clint_init_1 (Nat.le_of_ble_eq_true rfl) (Nat.le_of_ble_eq_true rfl) ?_
  refine W.eq (g2 := F0 m 4 ls []) rfl ?_
  refine lv_aload_n hx hb d_Clint_init_4 rfl (lv_at hl 0 rfl) ?_
  refine lv_bipush (v := 8) hx hb d_Clint_init_5 rfl ?_
  refine va_newa (atype := .int) (a0 := (8, .inl (fun _ => 0))) (ty := .int) hx hb (hts _ ka_int) rfl hK hP hD hS hA (fun _ => rfl) (by decide) rfl (by show 8 * _ ≤ _; first | decide | (simp only [componentBytes]; omega)) (Nat.le_of_ble_eq_true rfl) (Nat.le_of_ble_eq_true rfl) d_Clint_init_7 (fun q_1 k_1_ H hK hP hD hS => ?_)
  have hP : va_P D classes [(h0, .inr (2, [.null])), (q_1, .inl (k_1_, 8, .inl (fun _ => 0)))] H := hP
  have hD : va_D A [(h0, .inr (2, [.null])), (q_1, .inl (k_1_, 8, .inl (fun _ => 0)))] := hD
  have hK : va_K D classes [(k_1_, .int)] s := hK
  refine y_putF (D := D) (ci := 2) (v := .ref q_1) (ty := (.array .int)) (C := R_Clint) (T := F_Clint) (N := 1) (ws' := [(h0, .inr (2, [.ref q_1])), (q_1, .inl (k_1_, 8, .inl (fun _ => 0)))]) hx hb hts i_Clint t_Clint t_Clint_ok n_Clint hown hK hP hD hS 0 rfl rfl 0 (by decide) (hts _ k_44) (fun _ h9 => h9) rfl hin rfl (by decide +kernel) rfl rfl (Nat.le_of_ble_eq_true rfl) d_Clint_init_9 rfl (fun H locs hP hD hS => ?_)
  refine lv_aload_n hx hb d_Clint_init_12 rfl (lv_at hl 0 rfl) ?_
  refine xv (wr := []) (W2 := fun u9 => [(h0, .inr (2, [.ref q_1])), (q_1, .inl (k_1_, 8, .inl u9))]) (xV (rest := []) ⟨hx, hb, hml, hown, hts⟩ (c_Clint_restart (fun i => if i = 1 then h0 else q_1) (fun _ => k_1_) (fun _ => 0)) mw_Clint_restart mv_Clint_restart k_40 ⟨rfl, rfl, Nat.le_of_ble_eq_true rfl, Nat.le_of_ble_eq_true rfl⟩ hK hP hD hS hA hF [0, 1] [0] rfl rfl rfl 0 2 rfl rfl rfl rfl hl.1 rfl (Nat.le_of_ble_eq_true rfl) d_Clint_init_13 ⟨Nat.le_of_ble_eq_true rfl, Nat.le_of_ble_eq_true rfl⟩) hP hD hS hA [0, 1] [] [0, 1] rfl rfl rfl (by decide) (fun _ => rfl) rfl (fun u_2 H locs h_2 hP hD hS => ?_)
  subst h_2
  exact rvI (q_1, k_1_) hx hb hr hlocks hP hK hD hS d_Clint_init_16 trivial (by decide) (by decide)
set_option maxHeartbeats 4000000 in
set_option maxRecDepth 100000 in
theorem c_Csrs_init {l : Launch} {D : va_G} {g : Nat → Nat} (h0 : Nat) (x0 : Int32) : CI l D g (fun _ => True) y_Csrs_init b_Csrs_init 2 1 [.ref h0, .int x0] [(h0, .inr (3, [.int 0, .int 0, .int 0, .int 0, .int 0, .int 0, .int 0, .int 0, .int 0, .int 0, .int 0, .int 0, .int 0, .int 0, .int 0, .int 0, .int 0]))] (fun u : Unit => True) (fun u => wC h0 (csr0 x0)) (fun u => []) 0 0 := by
  refine CI.of rfl rfl (Nat.le_of_ble_eq_true rfl) (fun p e s m below meth c A ls hx hb hr hml hts hown hlocks hin hA hP hK hD hF hS hE hl => ?_)
  have hl : lv_has ls 2 [(0, .ref h0), (1, .int x0)] := hl
  refine lv_aload_n hx hb d_Csrs_init_0 rfl (lv_at hl 0 rfl) ?_
  refine W.objInit hx hb hown (hts _ k_87) (hts _ ko_1) (hts _ ko_2) rfl (by rw [hml]; exact hl.1) rfl d_Csrs_init_1 (Nat.le_of_ble_eq_true rfl) (Nat.le_of_ble_eq_true rfl) ?_
  refine W.eq (g2 := F0 m 4 ls []) rfl ?_
  refine lv_aload_n hx hb d_Csrs_init_4 rfl (lv_at hl 0 rfl) ?_
  refine lv_iload_n hx hb d_Csrs_init_5 rfl (lv_at hl 1 rfl) ?_
  refine y_putF (D := D) (ci := 3) (v := .int x0) (ty := .int) (C := R_Csrs) (T := F_Csrs) (N := 17) (ws' := [(h0, .inr (3, [.int x0, .int 0, .int 0, .int 0, .int 0, .int 0, .int 0, .int 0, .int 0, .int 0, .int 0, .int 0, .int 0, .int 0, .int 0, .int 0, .int 0]))]) hx hb hts i_Csrs t_Csrs t_Csrs_ok n_Csrs hown hK hP hD hS 0 rfl rfl 0 (by decide) (hts _ k_88) (fun _ h9 => h9) rfl hin rfl (by decide +kernel) rfl rfl (Nat.le_of_ble_eq_true rfl) d_Csrs_init_6 rfl (fun H locs hP hD hS => ?_)
  exact rvI () hx hb hr hlocks hP hK hD hS d_Csrs_init_9 trivial (by decide) (by decide)
set_option maxHeartbeats 4000000 in
set_option maxRecDepth 100000 in
theorem c_Hart_init {l : Launch} {D : va_G} {g : Nat → Nat} (h0 : Nat) (x0 : Int32) : CI l D g (fun _ => True) y_Hart_init b_Hart_init 2 2 [.ref h0, .int x0] [(h0, .inr (4, [.int 0, .null, .null, .int 0, .int 0, .int 0]))] (fun u : (Nat → Nat) × (Nat → ClassId) => True) (fun u => [(h0, .inr (4, [.int x0, .ref (u.1 7), .ref (u.1 8), .int (-2147483648), .int 3, .int 0])), (u.1 7, .inl (u.2 4, 32, .inl (fun _ => 0))), (u.1 8, .inr (3, csF (csr0 x0)))]) (fun u => [(u.2 4, .int)]) 2 49 := by
  refine CI.of rfl rfl (Nat.le_of_ble_eq_true rfl) (fun p e s m below meth c A ls hx hb hr hml hts hown hlocks hin hA hP hK hD hF hS hE hl => ?_)
  have hl : lv_has ls 2 [(0, .ref h0), (1, .int x0)] := hl
  refine lv_aload_n hx hb d_Hart_init_0 rfl (lv_at hl 0 rfl) ?_
  refine W.objInit hx hb hown (hts _ k_80) (hts _ ko_1) (hts _ ko_2) rfl (by rw [hml]; exact hl.1) rfl d_Hart_init_1 (Nat.le_of_ble_eq_true rfl) (Nat.le_of_ble_eq_true rfl) ?_
  refine W.eq (g2 := F0 m 4 ls []) rfl ?_
  refine lv_aload_n hx hb d_Hart_init_4 rfl (lv_at hl 0 rfl) ?_
  refine lv_bipush (v := 32) hx hb d_Hart_init_5 rfl ?_
  refine va_newa (atype := .int) (a0 := (32, .inl (fun _ => 0))) (ty := .int) hx hb (hts _ ka_int) rfl hK hP hD hS hA (fun _ => rfl) (by decide) rfl (by show 32 * _ ≤ _; first | decide | (simp only [componentBytes]; omega)) (Nat.le_of_ble_eq_true rfl) (Nat.le_of_ble_eq_true rfl) d_Hart_init_7 (fun q_1 k_1_ H hK hP hD hS => ?_)
  have hP : va_P D classes [(h0, .inr (4, [.int 0, .null, .null, .int 0, .int 0, .int 0])), (q_1, .inl (k_1_, 32, .inl (fun _ => 0)))] H := hP
  have hD : va_D A [(h0, .inr (4, [.int 0, .null, .null, .int 0, .int 0, .int 0])), (q_1, .inl (k_1_, 32, .inl (fun _ => 0)))] := hD
  have hK : va_K D classes [(k_1_, .int)] s := hK
  refine y_putF (D := D) (ci := 4) (v := .ref q_1) (ty := (.array .int)) (C := R_Hart) (T := F_Hart) (N := 6) (ws' := [(h0, .inr (4, [.int 0, .ref q_1, .null, .int 0, .int 0, .int 0])), (q_1, .inl (k_1_, 32, .inl (fun _ => 0)))]) hx hb hts i_Hart t_Hart t_Hart_ok n_Hart hown hK hP hD hS 0 rfl rfl 1 (by decide) (hts _ k_144) (fun _ h9 => h9) rfl hin rfl (by decide +kernel) rfl rfl (Nat.le_of_ble_eq_true rfl) d_Hart_init_9 rfl (fun H locs hP hD hS => ?_)
  refine lv_aload_n hx hb d_Hart_init_12 rfl (lv_at hl 0 rfl) ?_
  refine lv_ldc (v := (-2147483648)) hx hb hown (hts _ k_81) d_Hart_init_13 ?_
  refine y_put (D := D) (ci := 4) (v := .int (-2147483648)) (ty := .int) (C := R_Hart) (T := F_Hart) (N := 6) (ws' := [(h0, .inr (4, [.int 0, .ref q_1, .null, .int (-2147483648), .int 0, .int 0])), (q_1, .inl (k_1_, 32, .inl (fun _ => 0)))]) hx hb hts i_Hart t_Hart t_Hart_ok n_Hart hown hK hP hD hS 0 rfl rfl 3 (by decide) (hts _ k_148) (fun _ h9 => h9) rfl (by decide +kernel) rfl rfl (Nat.le_of_ble_eq_true rfl) d_Hart_init_15 rfl (fun H locs hP hD hS => ?_)
  refine lv_aload_n hx hb d_Hart_init_18 rfl (lv_at hl 0 rfl) ?_
  refine lv_iconst (v := 3) hx hb d_Hart_init_19 rfl ?_
  refine y_put (D := D) (ci := 4) (v := .int 3) (ty := .int) (C := R_Hart) (T := F_Hart) (N := 6) (ws' := [(h0, .inr (4, [.int 0, .ref q_1, .null, .int (-2147483648), .int 3, .int 0])), (q_1, .inl (k_1_, 32, .inl (fun _ => 0)))]) hx hb hts i_Hart t_Hart t_Hart_ok n_Hart hown hK hP hD hS 0 rfl rfl 4 (by decide) (hts _ k_150) (fun _ h9 => h9) rfl (by decide +kernel) rfl rfl (Nat.le_of_ble_eq_true rfl) d_Hart_init_20 rfl (fun H locs hP hD hS => ?_)
  refine lv_aload_n hx hb d_Hart_init_23 rfl (lv_at hl 0 rfl) ?_
  refine lv_iconst (v := 0) hx hb d_Hart_init_24 rfl ?_
  refine y_put (D := D) (ci := 4) (v := .int 0) (ty := .int) (C := R_Hart) (T := F_Hart) (N := 6) (ws' := [(h0, .inr (4, [.int 0, .ref q_1, .null, .int (-2147483648), .int 3, .int 0])), (q_1, .inl (k_1_, 32, .inl (fun _ => 0)))]) hx hb hts i_Hart t_Hart t_Hart_ok n_Hart hown hK hP hD hS 0 rfl rfl 5 (by decide) (hts _ k_152) (fun _ h9 => h9) rfl (by decide +kernel) rfl rfl (Nat.le_of_ble_eq_true rfl) d_Hart_init_25 rfl (fun H locs hP hD hS => ?_)
  refine lv_aload_n hx hb d_Hart_init_28 rfl (lv_at hl 0 rfl) ?_
  refine lv_iload_n hx hb d_Hart_init_29 rfl (lv_at hl 1 rfl) ?_
  refine y_putF (D := D) (ci := 4) (v := .int x0) (ty := .int) (C := R_Hart) (T := F_Hart) (N := 6) (ws' := [(h0, .inr (4, [.int x0, .ref q_1, .null, .int (-2147483648), .int 3, .int 0])), (q_1, .inl (k_1_, 32, .inl (fun _ => 0)))]) hx hb hts i_Hart t_Hart t_Hart_ok n_Hart hown hK hP hD hS 0 rfl rfl 0 (by decide) (hts _ k_143) (fun _ h9 => h9) rfl hin rfl (by decide +kernel) rfl rfl (Nat.le_of_ble_eq_true rfl) d_Hart_init_30 rfl (fun H locs hP hD hS => ?_)
  refine lv_aload_n hx hb d_Hart_init_33 rfl (lv_at hl 0 rfl) ?_
  refine va_new (D := D) (ci := 3) (fs := [.int 0, .int 0, .int 0, .int 0, .int 0, .int 0, .int 0, .int 0, .int 0, .int 0, .int 0, .int 0, .int 0, .int 0, .int 0, .int 0, .int 0]) (C := R_Csrs) (T := F_Csrs) (N := 17) hx hb hts i_Csrs t_Csrs t_Csrs_ok hown (hts _ k_82) (hts _ k_83) (hts _ k_6) hK hP hD hS hA rfl (by decide +kernel) (Nat.le_of_ble_eq_true rfl) (Nat.le_of_ble_eq_true rfl) d_Hart_init_34 (fun q_2 H hP hD hS => ?_)
  have hP : va_P D classes [(h0, .inr (4, [.int x0, .ref q_1, .null, .int (-2147483648), .int 3, .int 0])), (q_1, .inl (k_1_, 32, .inl (fun _ => 0))), (q_2, .inr (3, [.int 0, .int 0, .int 0, .int 0, .int 0, .int 0, .int 0, .int 0, .int 0, .int 0, .int 0, .int 0, .int 0, .int 0, .int 0, .int 0, .int 0]))] H := hP
  have hD : va_D A [(h0, .inr (4, [.int x0, .ref q_1, .null, .int (-2147483648), .int 3, .int 0])), (q_1, .inl (k_1_, 32, .inl (fun _ => 0))), (q_2, .inr (3, [.int 0, .int 0, .int 0, .int 0, .int 0, .int 0, .int 0, .int 0, .int 0, .int 0, .int 0, .int 0, .int 0, .int 0, .int 0, .int 0, .int 0]))] := hD
  have hK : va_K D classes [(k_1_, .int)] s := hK
  refine lv_dup hx hb d_Hart_init_37 rfl ?_
  refine lv_iload_n hx hb d_Hart_init_38 rfl (lv_at hl 1 rfl) ?_
  refine xI (wr := [(h0, .inr (4, [.int x0, .ref q_1, .null, .int (-2147483648), .int 3, .int 0])), (q_1, .inl (k_1_, 32, .inl (fun _ => 0)))]) (rest := [.ref q_2, .ref h0]) ⟨hx, hb, hml, hown, hts⟩ (c_Csrs_init q_2 x0) mw_Csrs_init mi_Csrs_init rfl k_84 ⟨Nat.le_of_ble_eq_true rfl, Nat.le_of_ble_eq_true rfl⟩ (fun _ _ => trivial) (fun _ _ _ _ _ => trivial) hK hP hD hS hA hF [2] [0, 1] rfl rfl rfl rfl (by decide) rfl hl.1 rfl (Nat.le_of_ble_eq_true rfl) d_Hart_init_39 ⟨Nat.le_of_ble_eq_true rfl, Nat.le_of_ble_eq_true rfl⟩ (fun u_3 H locs h_3 hK hP hD hS => ?_)
  have hP : va_P D classes [(h0, .inr (4, [.int x0, .ref q_1, .null, .int (-2147483648), .int 3, .int 0])), (q_1, .inl (k_1_, 32, .inl (fun _ => 0))), (q_2, .inr (3, csF (csr0 x0)))] H := hP
  have hD : va_D A [(h0, .inr (4, [.int x0, .ref q_1, .null, .int (-2147483648), .int 3, .int 0])), (q_1, .inl (k_1_, 32, .inl (fun _ => 0))), (q_2, .inr (3, csF (csr0 x0)))] := hD
  have hK : va_K D classes [(k_1_, .int)] s := hK
  refine y_putF (D := D) (ci := 4) (v := .ref q_2) (ty := (.object "TwinHart$Csrs")) (C := R_Hart) (T := F_Hart) (N := 6) (ws' := [(h0, .inr (4, [.int x0, .ref q_1, .ref q_2, .int (-2147483648), .int 3, .int 0])), (q_1, .inl (k_1_, 32, .inl (fun _ => 0))), (q_2, .inr (3, csF (csr0 x0)))]) hx hb hts i_Hart t_Hart t_Hart_ok n_Hart hown hK hP hD hS 0 rfl rfl 2 (by decide) (hts _ k_146) (fun _ h9 => h9) rfl hin rfl (by decide +kernel) rfl rfl (Nat.le_of_ble_eq_true rfl) d_Hart_init_42 rfl (fun H locs hP hD hS => ?_)
  exact rvI ((fun i => ([0, 0, 0, 0, 0, 0, h0, q_1, q_2] : List Nat).getD i 0), fun _ => k_1_) hx hb hr hlocks hP hK hD hS d_Hart_init_45 trivial (by decide) (by decide)
set_option maxHeartbeats 4000000 in
set_option maxRecDepth 100000 in
theorem c_Memory_init {l : Launch} {D : va_G} {g : Nat → Nat} (h0 n : Nat) (hn1 : 16 ≤ n) (hn : n ≤ 4096) : CI l D g (fun _ => True) y_Memory_init b_Memory_init 2 2 [.ref h0, .int (nI n)] [(h0, .inr (1, [.null, .null, .null, .int 0, .null]))] (fun u : (Nat → Nat) × (Nat → ClassId) => True) (fun u => wM (hA0 h0 u.1) u.2 n mem0) (fun u => tyM u.2) 5 4363 := by
  refine CI.of rfl rfl (Nat.le_of_ble_eq_true rfl) (fun p e s m below meth c A ls hx hb hr hml hts hown hlocks hin hA hP hK hD hF hS hE hl => ?_)
  have hl : lv_has ls 2 [(0, .ref h0), (1, .int (nI n))] := hl
  refine lv_aload_n hx hb d_Memory_init_0 rfl (lv_at hl 0 rfl) ?_
  refine W.objInit hx hb hown (hts _ k_33) (hts _ ko_1) (hts _ ko_2) rfl (by rw [hml]; exact hl.1) rfl d_Memory_init_1 (Nat.le_of_ble_eq_true rfl) (Nat.le_of_ble_eq_true rfl) ?_
  refine W.eq (g2 := F0 m 4 ls []) rfl ?_
  refine lv_aload_n hx hb d_Memory_init_4 rfl (lv_at hl 0 rfl) ?_
  refine va_new (D := D) (ci := 2) (fs := [.null]) (C := R_Clint) (T := F_Clint) (N := 1) hx hb hts i_Clint t_Clint t_Clint_ok hown (hts _ k_34) (hts _ k_35) (hts _ k_4) hK hP hD hS hA rfl (by decide +kernel) (Nat.le_of_ble_eq_true rfl) (Nat.le_of_ble_eq_true rfl) d_Memory_init_5 (fun q_1 H hP hD hS => ?_)
  have hP : va_P D classes [(h0, .inr (1, [.null, .null, .null, .int 0, .null])), (q_1, .inr (2, [.null]))] H := hP
  have hD : va_D A [(h0, .inr (1, [.null, .null, .null, .int 0, .null])), (q_1, .inr (2, [.null]))] := hD
  have hK : va_K D classes [] s := hK
  refine lv_dup hx hb d_Memory_init_8 rfl ?_
  refine xI (wr := [(h0, .inr (1, [.null, .null, .null, .int 0, .null]))]) (rest := [.ref q_1, .ref h0]) ⟨hx, hb, hml, hown, hts⟩ (c_Clint_init q_1) mw_Clint_init mi_Clint_init rfl k_36 ⟨Nat.le_of_ble_eq_true rfl, Nat.le_of_ble_eq_true rfl⟩ (fun _ _ => trivial) (fun _ _ _ _ _ => trivial) hK hP hD hS hA hF [1] [0] rfl rfl rfl rfl (by decide) rfl hl.1 rfl (Nat.le_of_ble_eq_true rfl) d_Memory_init_9 ⟨Nat.le_of_ble_eq_true rfl, Nat.le_of_ble_eq_true rfl⟩ (fun u_2 H locs h_2 hK hP hD hS => ?_)
  obtain ⟨qa_2, ka_2⟩ := u_2
  have hP : va_P D classes [(h0, .inr (1, [.null, .null, .null, .int 0, .null])), (q_1, .inr (2, [.ref qa_2])), (qa_2, .inl (ka_2, 8, .inl (sp_Clint_restart (fun _ => 0))))] H := hP
  have hD : va_D A [(h0, .inr (1, [.null, .null, .null, .int 0, .null])), (q_1, .inr (2, [.ref qa_2])), (qa_2, .inl (ka_2, 8, .inl (sp_Clint_restart (fun _ => 0))))] := hD
  have hK : va_K D classes [(ka_2, .int)] s := hK
  refine y_putF (D := D) (ci := 1) (v := .ref q_1) (ty := (.object "TwinHart$Clint")) (C := R_Memory) (T := F_Memory) (N := 5) (ws' := [(h0, .inr (1, [.null, .ref q_1, .null, .int 0, .null])), (q_1, .inr (2, [.ref qa_2])), (qa_2, .inl (ka_2, 8, .inl (sp_Clint_restart (fun _ => 0))))]) hx hb hts i_Memory t_Memory t_Memory_ok n_Memory hown hK hP hD hS 0 rfl rfl 1 (by decide) (hts _ k_53) (fun _ h9 => h9) rfl hin rfl (by decide +kernel) rfl rfl (Nat.le_of_ble_eq_true rfl) d_Memory_init_12 rfl (fun H locs hP hD hS => ?_)
  refine lv_aload_n hx hb d_Memory_init_15 rfl (lv_at hl 0 rfl) ?_
  refine lv_sipush (v := 256) hx hb d_Memory_init_16 rfl ?_
  refine va_newa (atype := .byte) (a0 := (256, .inl (fun _ => 0))) (ty := .byte) hx hb (hts _ ka_byte) rfl hK hP hD hS hA (fun _ => rfl) (by decide) rfl (by show 256 * _ ≤ _; first | decide | (simp only [componentBytes]; omega)) (Nat.le_of_ble_eq_true rfl) (Nat.le_of_ble_eq_true rfl) d_Memory_init_19 (fun q_3 k_3_ H hK hP hD hS => ?_)
  have hP : va_P D classes [(h0, .inr (1, [.null, .ref q_1, .null, .int 0, .null])), (q_1, .inr (2, [.ref qa_2])), (qa_2, .inl (ka_2, 8, .inl (sp_Clint_restart (fun _ => 0)))), (q_3, .inl (k_3_, 256, .inl (fun _ => 0)))] H := hP
  have hD : va_D A [(h0, .inr (1, [.null, .ref q_1, .null, .int 0, .null])), (q_1, .inr (2, [.ref qa_2])), (qa_2, .inl (ka_2, 8, .inl (sp_Clint_restart (fun _ => 0)))), (q_3, .inl (k_3_, 256, .inl (fun _ => 0)))] := hD
  have hK : va_K D classes [(ka_2, .int), (k_3_, .byte)] s := hK
  refine y_putF (D := D) (ci := 1) (v := .ref q_3) (ty := (.array .byte)) (C := R_Memory) (T := F_Memory) (N := 5) (ws' := [(h0, .inr (1, [.null, .ref q_1, .ref q_3, .int 0, .null])), (q_1, .inr (2, [.ref qa_2])), (qa_2, .inl (ka_2, 8, .inl (sp_Clint_restart (fun _ => 0)))), (q_3, .inl (k_3_, 256, .inl (fun _ => 0)))]) hx hb hts i_Memory t_Memory t_Memory_ok n_Memory hown hK hP hD hS 0 rfl rfl 2 (by decide) (hts _ k_56) (fun _ h9 => h9) rfl hin rfl (by decide +kernel) rfl rfl (Nat.le_of_ble_eq_true rfl) d_Memory_init_21 rfl (fun H locs hP hD hS => ?_)
  refine lv_aload_n hx hb d_Memory_init_24 rfl (lv_at hl 0 rfl) ?_
  refine lv_iconst (v := 0) hx hb d_Memory_init_25 rfl ?_
  refine y_put (D := D) (ci := 1) (v := .int 0) (ty := .int) (C := R_Memory) (T := F_Memory) (N := 5) (ws' := [(h0, .inr (1, [.null, .ref q_1, .ref q_3, .int 0, .null])), (q_1, .inr (2, [.ref qa_2])), (qa_2, .inl (ka_2, 8, .inl (sp_Clint_restart (fun _ => 0)))), (q_3, .inl (k_3_, 256, .inl (fun _ => 0)))]) hx hb hts i_Memory t_Memory t_Memory_ok n_Memory hown hK hP hD hS 0 rfl rfl 3 (by decide) (hts _ k_58) (fun _ h9 => h9) rfl (by decide +kernel) rfl rfl (Nat.le_of_ble_eq_true rfl) d_Memory_init_26 rfl (fun H locs hP hD hS => ?_)
  refine lv_aload_n hx hb d_Memory_init_29 rfl (lv_at hl 0 rfl) ?_
  refine lv_iconst (v := 2) hx hb d_Memory_init_30 rfl ?_
  refine va_newa (atype := .long) (a0 := (2, .inr (.inl (fun _ => 0)))) (ty := .long) hx hb (hts _ ka_long) rfl hK hP hD hS hA (fun _ => rfl) (by decide) rfl (by show 2 * _ ≤ _; first | decide | (simp only [componentBytes]; omega)) (Nat.le_of_ble_eq_true rfl) (Nat.le_of_ble_eq_true rfl) d_Memory_init_31 (fun q_4 k_4_ H hK hP hD hS => ?_)
  have hP : va_P D classes [(h0, .inr (1, [.null, .ref q_1, .ref q_3, .int 0, .null])), (q_1, .inr (2, [.ref qa_2])), (qa_2, .inl (ka_2, 8, .inl (sp_Clint_restart (fun _ => 0)))), (q_3, .inl (k_3_, 256, .inl (fun _ => 0))), (q_4, .inl (k_4_, 2, .inr (.inl (fun _ => 0))))] H := hP
  have hD : va_D A [(h0, .inr (1, [.null, .ref q_1, .ref q_3, .int 0, .null])), (q_1, .inr (2, [.ref qa_2])), (qa_2, .inl (ka_2, 8, .inl (sp_Clint_restart (fun _ => 0)))), (q_3, .inl (k_3_, 256, .inl (fun _ => 0))), (q_4, .inl (k_4_, 2, .inr (.inl (fun _ => 0))))] := hD
  have hK : va_K D classes [(ka_2, .int), (k_3_, .byte), (k_4_, .long)] s := hK
  refine lv_dup hx hb d_Memory_init_33 rfl ?_
  refine lv_iconst (v := 0) hx hb d_Memory_init_34 rfl ?_
  refine lv_ldc2 (v := (-1)) hx hb hown (hts _ k_50) d_Memory_init_35 ?_
  refine y_last (ws' := [(h0, .inr (1, [.null, .ref q_1, .ref q_3, .int 0, .null])), (q_1, .inr (2, [.ref qa_2])), (qa_2, .inl (ka_2, 8, .inl (sp_Clint_restart (fun _ => 0)))), (q_3, .inl (k_3_, 256, .inl (fun _ => 0))), (q_4, .inl (k_4_, 2, .inr (.inl (vp_updL (fun _ => 0) 0 (-1)))))]) hx hb hK hP hD hS 4 2 rfl rfl (by unfold vp_in; decide) d_Memory_init_38 rfl (fun H locs hP hD hS => ?_)
  refine lv_dup hx hb d_Memory_init_39 rfl ?_
  refine lv_iconst (v := 1) hx hb d_Memory_init_40 rfl ?_
  refine lv_ldc2 (v := (-1)) hx hb hown (hts _ k_50) d_Memory_init_41 ?_
  refine y_last (ws' := [(h0, .inr (1, [.null, .ref q_1, .ref q_3, .int 0, .null])), (q_1, .inr (2, [.ref qa_2])), (qa_2, .inl (ka_2, 8, .inl (sp_Clint_restart (fun _ => 0)))), (q_3, .inl (k_3_, 256, .inl (fun _ => 0))), (q_4, .inl (k_4_, 2, .inr (.inl (vp_updL (vp_updL (fun _ => 0) 0 (-1)) 1 (-1)))))]) hx hb hK hP hD hS 4 2 rfl rfl (by unfold vp_in; decide) d_Memory_init_44 rfl (fun H locs hP hD hS => ?_)
  refine y_putF (D := D) (ci := 1) (v := .ref q_4) (ty := (.array .long)) (C := R_Memory) (T := F_Memory) (N := 5) (ws' := [(h0, .inr (1, [.null, .ref q_1, .ref q_3, .int 0, .ref q_4])), (q_1, .inr (2, [.ref qa_2])), (qa_2, .inl (ka_2, 8, .inl (sp_Clint_restart (fun _ => 0)))), (q_3, .inl (k_3_, 256, .inl (fun _ => 0))), (q_4, .inl (k_4_, 2, .inr (.inl (vp_updL (vp_updL (fun _ => 0) 0 (-1)) 1 (-1)))))]) hx hb hts i_Memory t_Memory t_Memory_ok n_Memory hown hK hP hD hS 0 rfl rfl 4 (by decide) (hts _ k_60) (fun _ h9 => h9) rfl hin rfl (by decide +kernel) rfl rfl (Nat.le_of_ble_eq_true rfl) d_Memory_init_45 rfl (fun H locs hP hD hS => ?_)
  refine lv_aload_n hx hb d_Memory_init_48 rfl (lv_at hl 0 rfl) ?_
  refine lv_iload_n hx hb d_Memory_init_49 rfl (lv_at hl 1 rfl) ?_
  refine va_newa (atype := .int) (a0 := (n, .inl (fun _ => 0))) (ty := .int) hx hb (hts _ ka_int) rfl hK hP hD hS hA (fun _ => rfl) (nI_pos (by omega)) (nI_clamp (by omega)) (by show n * _ ≤ _; first | decide | (simp only [componentBytes]; omega)) (Nat.le_of_ble_eq_true rfl) (show _ ≤ (4363 : Nat) from by omega) d_Memory_init_50 (fun q_5 k_5_ H hK hP hD hS => ?_)
  have hP : va_P D classes [(h0, .inr (1, [.null, .ref q_1, .ref q_3, .int 0, .ref q_4])), (q_1, .inr (2, [.ref qa_2])), (qa_2, .inl (ka_2, 8, .inl (sp_Clint_restart (fun _ => 0)))), (q_3, .inl (k_3_, 256, .inl (fun _ => 0))), (q_4, .inl (k_4_, 2, .inr (.inl (vp_updL (vp_updL (fun _ => 0) 0 (-1)) 1 (-1))))), (q_5, .inl (k_5_, n, .inl (fun _ => 0)))] H := hP
  have hD : va_D A [(h0, .inr (1, [.null, .ref q_1, .ref q_3, .int 0, .ref q_4])), (q_1, .inr (2, [.ref qa_2])), (qa_2, .inl (ka_2, 8, .inl (sp_Clint_restart (fun _ => 0)))), (q_3, .inl (k_3_, 256, .inl (fun _ => 0))), (q_4, .inl (k_4_, 2, .inr (.inl (vp_updL (vp_updL (fun _ => 0) 0 (-1)) 1 (-1))))), (q_5, .inl (k_5_, n, .inl (fun _ => 0)))] := hD
  have hK : va_K D classes [(ka_2, .int), (k_3_, .byte), (k_4_, .long), (k_5_, .int)] s := hK
  refine y_putF (D := D) (ci := 1) (v := .ref q_5) (ty := (.array .int)) (C := R_Memory) (T := F_Memory) (N := 5) (ws' := [(h0, .inr (1, [.ref q_5, .ref q_1, .ref q_3, .int 0, .ref q_4])), (q_1, .inr (2, [.ref qa_2])), (qa_2, .inl (ka_2, 8, .inl (sp_Clint_restart (fun _ => 0)))), (q_3, .inl (k_3_, 256, .inl (fun _ => 0))), (q_4, .inl (k_4_, 2, .inr (.inl (vp_updL (vp_updL (fun _ => 0) 0 (-1)) 1 (-1))))), (q_5, .inl (k_5_, n, .inl (fun _ => 0)))]) hx hb hts i_Memory t_Memory t_Memory_ok n_Memory hown hK hP hD hS 0 rfl rfl 0 (by decide) (hts _ k_51) (fun _ h9 => h9) rfl hin rfl (by decide +kernel) rfl rfl (Nat.le_of_ble_eq_true rfl) d_Memory_init_52 rfl (fun H locs hP hD hS => ?_)
  exact rvI ((fun i => ([h0, q_1, qa_2, q_5, q_3, q_4] : List Nat).getD i 0), (fun i => ([ka_2, k_5_, k_3_, k_4_] : List ClassId).getD i 0)) hx hb hr hlocks (hP.sub [0, 1, 2, 5, 3, 4] rfl) (hK.sub [0, 3, 1, 2] rfl) (hD.sub [0, 1, 2, 5, 3, 4] (by decide) rfl) hS d_Memory_init_55 trivial (by decide) (by omega)
set_option maxHeartbeats 4000000 in
set_option maxRecDepth 100000 in
theorem c_TwinHart_init {l : Launch} {D : va_G} {g : Nat → Nat} (h0 : Nat) (x0 : Int32) : CI l D g (va_AO R_Hart) y_TwinHart_init b_TwinHart_init 2 3 [.ref h0, .int x0] [(h0, .inr (0, [.null, .null]))] (fun u : ctT => True) (fun u => wT h0 u.1 u.2.1 u.2.2.1 u.2.2.2.1 u.2.2.2.2.1 u.2.2.2.2.2.1 u.2.2.2.2.2.2.1 u.2.2.2.2.2.2.2 (nW x0) top0) (fun u => tyT u.2.2.2.2.2.1 u.2.2.2.2.2.2.1 u.2.2.2.2.2.2.2 u.2.1) 13 4480 := by
  refine CI.of rfl rfl (Nat.le_of_ble_eq_true rfl) (fun p e s m below meth c A ls hx hb hr hml hts hown hlocks hin hA hP hK hD hF hS hE hl => ?_)
  have hl : lv_has ls 2 [(0, .ref h0), (1, .int x0)] := hl
  refine lv_aload_n hx hb d_TwinHart_init_0 rfl (lv_at hl 0 rfl) ?_
  refine W.objInit hx hb hown (hts _ k_19) (hts _ ko_1) (hts _ ko_2) rfl (by rw [hml]; exact hl.1) rfl d_TwinHart_init_1 (Nat.le_of_ble_eq_true rfl) (Nat.le_of_ble_eq_true rfl) ?_
  refine W.eq (g2 := F0 m 4 ls []) rfl ?_
  refine lv_aload_n hx hb d_TwinHart_init_4 rfl (lv_at hl 0 rfl) ?_
  refine va_new (D := D) (ci := 1) (fs := [.null, .null, .null, .int 0, .null]) (C := R_Memory) (T := F_Memory) (N := 5) hx hb hts i_Memory t_Memory t_Memory_ok hown (hts _ k_22) (hts _ k_23) (hts _ k_2) hK hP hD hS hA rfl (by decide +kernel) (Nat.le_of_ble_eq_true rfl) (Nat.le_of_ble_eq_true rfl) d_TwinHart_init_5 (fun q_1 H hP hD hS => ?_)
  have hP : va_P D classes [(h0, .inr (0, [.null, .null])), (q_1, .inr (1, [.null, .null, .null, .int 0, .null]))] H := hP
  have hD : va_D A [(h0, .inr (0, [.null, .null])), (q_1, .inr (1, [.null, .null, .null, .int 0, .null]))] := hD
  have hK : va_K D classes [] s := hK
  refine lv_dup hx hb d_TwinHart_init_8 rfl ?_
  refine lv_bipush (v := 16) hx hb d_TwinHart_init_9 rfl ?_
  refine lv_iload_n hx hb d_TwinHart_init_11 rfl (lv_at hl 1 rfl) ?_
  refine lv_sipush (v := 4096) hx hb d_TwinHart_init_12 rfl ?_
  refine va_mmin (R := rI 3 13 4480) (rest := [.int 16, .ref q_1, .ref q_1, .ref h0]) hx hb (hml.trans hl.1.symm) hown (hts _ k_24) (hts _ k_25) (hts _ k_3) (hts _ k_26) (Nat.le_of_ble_eq_true rfl) (Nat.le_of_ble_eq_true rfl) (Nat.le_of_ble_eq_true rfl) (Nat.le_of_ble_eq_true rfl) d_TwinHart_init_15 ?_
  refine va_mmax (R := rI 3 13 4480) (rest := [.ref q_1, .ref q_1, .ref h0]) hx hb (hml.trans hl.1.symm) hown (hts _ k_27) (hts _ k_28) (hts _ k_3) (hts _ k_29) (Nat.le_of_ble_eq_true rfl) (Nat.le_of_ble_eq_true rfl) (Nat.le_of_ble_eq_true rfl) (Nat.le_of_ble_eq_true rfl) d_TwinHart_init_18 ?_
  refine lv_topi (fun y9 ey9 => ?_)
  obtain rfl : y9 = nI (nW x0) := ey9.trans (nW_eq x0)
  refine xI (wr := [(h0, .inr (0, [.null, .null]))]) (rest := [.ref q_1, .ref h0]) ⟨hx, hb, hml, hown, hts⟩ (c_Memory_init q_1 (nW x0) (nW_ge x0) (nW_le x0)) mw_Memory_init mi_Memory_init rfl k_30 ⟨Nat.le_of_ble_eq_true rfl, Nat.le_of_ble_eq_true rfl⟩ (fun _ _ => trivial) (fun _ _ _ _ _ => trivial) hK hP hD hS hA hF [1] [0] rfl rfl rfl rfl (by decide) rfl hl.1 rfl (Nat.le_of_ble_eq_true rfl) d_TwinHart_init_21 ⟨Nat.le_of_ble_eq_true rfl, Nat.le_of_ble_eq_true rfl⟩ (fun u_2 H locs h_2 hK hP hD hS => ?_)
  obtain ⟨am_2, km_2⟩ := u_2
  have hP : va_P D classes [(h0, .inr (0, [.null, .null])), (q_1, .inr (1, [.ref (am_2 3), .ref (am_2 1), .ref (am_2 4), .int 0, .ref (am_2 5)])), (am_2 1, .inr (2, [.ref (am_2 2)])), (am_2 2, .inl (km_2 0, 8, .inl (sp_Clint_restart (fun _ => 0)))), (am_2 3, .inl (km_2 1, nW x0, .inl (fun _ => 0))), (am_2 4, .inl (km_2 2, 256, .inl (fun _ => 0))), (am_2 5, .inl (km_2 3, 2, .inr (.inl (vp_updL (vp_updL (fun _ => 0) 0 (-1)) 1 (-1)))))] H := hP
  have hD : va_D A [(h0, .inr (0, [.null, .null])), (q_1, .inr (1, [.ref (am_2 3), .ref (am_2 1), .ref (am_2 4), .int 0, .ref (am_2 5)])), (am_2 1, .inr (2, [.ref (am_2 2)])), (am_2 2, .inl (km_2 0, 8, .inl (sp_Clint_restart (fun _ => 0)))), (am_2 3, .inl (km_2 1, nW x0, .inl (fun _ => 0))), (am_2 4, .inl (km_2 2, 256, .inl (fun _ => 0))), (am_2 5, .inl (km_2 3, 2, .inr (.inl (vp_updL (vp_updL (fun _ => 0) 0 (-1)) 1 (-1)))))] := hD
  have hK : va_K D classes [(km_2 0, .int), (km_2 1, .int), (km_2 2, .byte), (km_2 3, .long)] s := hK
  refine y_putF (D := D) (ci := 0) (v := .ref q_1) (ty := (.object "TwinHart$Memory")) (C := R_TwinHart) (T := F_TwinHart) (N := 2) (ws' := [(h0, .inr (0, [.ref q_1, .null])), (q_1, .inr (1, [.ref (am_2 3), .ref (am_2 1), .ref (am_2 4), .int 0, .ref (am_2 5)])), (am_2 1, .inr (2, [.ref (am_2 2)])), (am_2 2, .inl (km_2 0, 8, .inl (sp_Clint_restart (fun _ => 0)))), (am_2 3, .inl (km_2 1, nW x0, .inl (fun _ => 0))), (am_2 4, .inl (km_2 2, 256, .inl (fun _ => 0))), (am_2 5, .inl (km_2 3, 2, .inr (.inl (vp_updL (vp_updL (fun _ => 0) 0 (-1)) 1 (-1)))))]) hx hb hts i_TwinHart t_TwinHart t_TwinHart_ok n_TwinHart hown hK hP hD hS 0 rfl rfl 0 (by decide) (hts _ k_166) (fun _ h9 => h9) rfl hin rfl (by decide +kernel) rfl rfl (Nat.le_of_ble_eq_true rfl) d_TwinHart_init_24 rfl (fun H locs hP hD hS => ?_)
  refine lv_aload_n hx hb d_TwinHart_init_27 rfl (lv_at hl 0 rfl) ?_
  refine lv_iconst (v := 2) hx hb d_TwinHart_init_28 rfl ?_
  refine va_newq (C := R_Hart) (N' := 2) hx hb hown (hts _ k_74) hE hK hP hD hS hA (by decide) rfl (by decide) (Nat.le_of_ble_eq_true rfl) (Nat.le_of_ble_eq_true rfl) d_TwinHart_init_29 (fun q_3 k_3_ H hK hP hD hS => ?_)
  have hP : va_P D classes [(h0, .inr (0, [.ref q_1, .null])), (q_1, .inr (1, [.ref (am_2 3), .ref (am_2 1), .ref (am_2 4), .int 0, .ref (am_2 5)])), (am_2 1, .inr (2, [.ref (am_2 2)])), (am_2 2, .inl (km_2 0, 8, .inl (sp_Clint_restart (fun _ => 0)))), (am_2 3, .inl (km_2 1, nW x0, .inl (fun _ => 0))), (am_2 4, .inl (km_2 2, 256, .inl (fun _ => 0))), (am_2 5, .inl (km_2 3, 2, .inr (.inl (vp_updL (vp_updL (fun _ => 0) 0 (-1)) 1 (-1))))), (q_3, .inl (k_3_, 2, .inr (.inr (.inr (.inr (fun _ => none))))))] H := hP
  have hD : va_D A [(h0, .inr (0, [.ref q_1, .null])), (q_1, .inr (1, [.ref (am_2 3), .ref (am_2 1), .ref (am_2 4), .int 0, .ref (am_2 5)])), (am_2 1, .inr (2, [.ref (am_2 2)])), (am_2 2, .inl (km_2 0, 8, .inl (sp_Clint_restart (fun _ => 0)))), (am_2 3, .inl (km_2 1, nW x0, .inl (fun _ => 0))), (am_2 4, .inl (km_2 2, 256, .inl (fun _ => 0))), (am_2 5, .inl (km_2 3, 2, .inr (.inl (vp_updL (vp_updL (fun _ => 0) 0 (-1)) 1 (-1))))), (q_3, .inl (k_3_, 2, .inr (.inr (.inr (.inr (fun _ => none))))))] := hD
  have hK : va_K D classes [(km_2 0, .int), (km_2 1, .int), (km_2 2, .byte), (km_2 3, .long), (k_3_, .object R_Hart)] s := hK
  refine lv_dup hx hb d_TwinHart_init_32 rfl ?_
  refine lv_iconst (v := 0) hx hb d_TwinHart_init_33 rfl ?_
  refine va_new (D := D) (ci := 4) (fs := [.int 0, .null, .null, .int 0, .int 0, .int 0]) (C := R_Hart) (T := F_Hart) (N := 6) hx hb hts i_Hart t_Hart t_Hart_ok hown (hts _ k_74) (hts _ k_76) (hts _ k_5) hK hP hD hS hA rfl (by decide +kernel) (Nat.le_of_ble_eq_true rfl) (Nat.le_of_ble_eq_true rfl) d_TwinHart_init_34 (fun q_4 H hP hD hS => ?_)
  have hP : va_P D classes [(h0, .inr (0, [.ref q_1, .null])), (q_1, .inr (1, [.ref (am_2 3), .ref (am_2 1), .ref (am_2 4), .int 0, .ref (am_2 5)])), (am_2 1, .inr (2, [.ref (am_2 2)])), (am_2 2, .inl (km_2 0, 8, .inl (sp_Clint_restart (fun _ => 0)))), (am_2 3, .inl (km_2 1, nW x0, .inl (fun _ => 0))), (am_2 4, .inl (km_2 2, 256, .inl (fun _ => 0))), (am_2 5, .inl (km_2 3, 2, .inr (.inl (vp_updL (vp_updL (fun _ => 0) 0 (-1)) 1 (-1))))), (q_3, .inl (k_3_, 2, .inr (.inr (.inr (.inr (fun _ => none)))))), (q_4, .inr (4, [.int 0, .null, .null, .int 0, .int 0, .int 0]))] H := hP
  have hD : va_D A [(h0, .inr (0, [.ref q_1, .null])), (q_1, .inr (1, [.ref (am_2 3), .ref (am_2 1), .ref (am_2 4), .int 0, .ref (am_2 5)])), (am_2 1, .inr (2, [.ref (am_2 2)])), (am_2 2, .inl (km_2 0, 8, .inl (sp_Clint_restart (fun _ => 0)))), (am_2 3, .inl (km_2 1, nW x0, .inl (fun _ => 0))), (am_2 4, .inl (km_2 2, 256, .inl (fun _ => 0))), (am_2 5, .inl (km_2 3, 2, .inr (.inl (vp_updL (vp_updL (fun _ => 0) 0 (-1)) 1 (-1))))), (q_3, .inl (k_3_, 2, .inr (.inr (.inr (.inr (fun _ => none)))))), (q_4, .inr (4, [.int 0, .null, .null, .int 0, .int 0, .int 0]))] := hD
  have hK : va_K D classes [(km_2 0, .int), (km_2 1, .int), (km_2 2, .byte), (km_2 3, .long), (k_3_, .object R_Hart)] s := hK
  refine lv_dup hx hb d_TwinHart_init_37 rfl ?_
  refine lv_iconst (v := 0) hx hb d_TwinHart_init_38 rfl ?_
  refine xI (wr := [(h0, .inr (0, [.ref q_1, .null])), (q_1, .inr (1, [.ref (am_2 3), .ref (am_2 1), .ref (am_2 4), .int 0, .ref (am_2 5)])), (am_2 1, .inr (2, [.ref (am_2 2)])), (am_2 2, .inl (km_2 0, 8, .inl (sp_Clint_restart (fun _ => 0)))), (am_2 3, .inl (km_2 1, nW x0, .inl (fun _ => 0))), (am_2 4, .inl (km_2 2, 256, .inl (fun _ => 0))), (am_2 5, .inl (km_2 3, 2, .inr (.inl (vp_updL (vp_updL (fun _ => 0) 0 (-1)) 1 (-1))))), (q_3, .inl (k_3_, 2, .inr (.inr (.inr (.inr (fun _ => none))))))]) (rest := [.ref q_4, .int 0, .ref q_3, .ref q_3, .ref h0]) ⟨hx, hb, hml, hown, hts⟩ (c_Hart_init q_4 0) mw_Hart_init mi_Hart_init rfl k_77 ⟨Nat.le_of_ble_eq_true rfl, Nat.le_of_ble_eq_true rfl⟩ (fun _ _ => trivial) (fun _ _ _ _ _ => trivial) hK hP hD hS hA hF [8] [0, 1, 2, 3, 4, 5, 6, 7] rfl rfl rfl rfl (by decide) rfl hl.1 rfl (Nat.le_of_ble_eq_true rfl) d_TwinHart_init_39 ⟨Nat.le_of_ble_eq_true rfl, Nat.le_of_ble_eq_true rfl⟩ (fun u_5 H locs h_5 hK hP hD hS => ?_)
  obtain ⟨ah_5, kh_5⟩ := u_5
  have hP : va_P D classes [(h0, .inr (0, [.ref q_1, .null])), (q_1, .inr (1, [.ref (am_2 3), .ref (am_2 1), .ref (am_2 4), .int 0, .ref (am_2 5)])), (am_2 1, .inr (2, [.ref (am_2 2)])), (am_2 2, .inl (km_2 0, 8, .inl (sp_Clint_restart (fun _ => 0)))), (am_2 3, .inl (km_2 1, nW x0, .inl (fun _ => 0))), (am_2 4, .inl (km_2 2, 256, .inl (fun _ => 0))), (am_2 5, .inl (km_2 3, 2, .inr (.inl (vp_updL (vp_updL (fun _ => 0) 0 (-1)) 1 (-1))))), (q_3, .inl (k_3_, 2, .inr (.inr (.inr (.inr (fun _ => none)))))), (q_4, .inr (4, [.int 0, .ref (ah_5 7), .ref (ah_5 8), .int (-2147483648), .int 3, .int 0])), (ah_5 7, .inl (kh_5 4, 32, .inl (fun _ => 0))), (ah_5 8, .inr (3, csF (csr0 0)))] H := hP
  have hD : va_D A [(h0, .inr (0, [.ref q_1, .null])), (q_1, .inr (1, [.ref (am_2 3), .ref (am_2 1), .ref (am_2 4), .int 0, .ref (am_2 5)])), (am_2 1, .inr (2, [.ref (am_2 2)])), (am_2 2, .inl (km_2 0, 8, .inl (sp_Clint_restart (fun _ => 0)))), (am_2 3, .inl (km_2 1, nW x0, .inl (fun _ => 0))), (am_2 4, .inl (km_2 2, 256, .inl (fun _ => 0))), (am_2 5, .inl (km_2 3, 2, .inr (.inl (vp_updL (vp_updL (fun _ => 0) 0 (-1)) 1 (-1))))), (q_3, .inl (k_3_, 2, .inr (.inr (.inr (.inr (fun _ => none)))))), (q_4, .inr (4, [.int 0, .ref (ah_5 7), .ref (ah_5 8), .int (-2147483648), .int 3, .int 0])), (ah_5 7, .inl (kh_5 4, 32, .inl (fun _ => 0))), (ah_5 8, .inr (3, csF (csr0 0)))] := hD
  have hK : va_K D classes [(km_2 0, .int), (km_2 1, .int), (km_2 2, .byte), (km_2 3, .long), (k_3_, .object R_Hart), (kh_5 4, .int)] s := hK
  refine va_astq (r := (R_Hart, F_Hart, 6)) hx hb hK hP hD hS 7 4 8 4 rfl rfl rfl rfl (by unfold vp_in; decide) d_TwinHart_init_42 (fun H locs hP hD hS => ?_)
  have hP : va_P D classes [(h0, .inr (0, [.ref q_1, .null])), (q_1, .inr (1, [.ref (am_2 3), .ref (am_2 1), .ref (am_2 4), .int 0, .ref (am_2 5)])), (am_2 1, .inr (2, [.ref (am_2 2)])), (am_2 2, .inl (km_2 0, 8, .inl (sp_Clint_restart (fun _ => 0)))), (am_2 3, .inl (km_2 1, nW x0, .inl (fun _ => 0))), (am_2 4, .inl (km_2 2, 256, .inl (fun _ => 0))), (am_2 5, .inl (km_2 3, 2, .inr (.inl (vp_updL (vp_updL (fun _ => 0) 0 (-1)) 1 (-1))))), (q_3, .inl (k_3_, 2, .inr (.inr (.inr (.inr (va_up (fun _ => none) 0 (some q_4))))))), (q_4, .inr (4, [.int 0, .ref (ah_5 7), .ref (ah_5 8), .int (-2147483648), .int 3, .int 0])), (ah_5 7, .inl (kh_5 4, 32, .inl (fun _ => 0))), (ah_5 8, .inr (3, csF (csr0 0)))] H := hP
  have hD : va_D A [(h0, .inr (0, [.ref q_1, .null])), (q_1, .inr (1, [.ref (am_2 3), .ref (am_2 1), .ref (am_2 4), .int 0, .ref (am_2 5)])), (am_2 1, .inr (2, [.ref (am_2 2)])), (am_2 2, .inl (km_2 0, 8, .inl (sp_Clint_restart (fun _ => 0)))), (am_2 3, .inl (km_2 1, nW x0, .inl (fun _ => 0))), (am_2 4, .inl (km_2 2, 256, .inl (fun _ => 0))), (am_2 5, .inl (km_2 3, 2, .inr (.inl (vp_updL (vp_updL (fun _ => 0) 0 (-1)) 1 (-1))))), (q_3, .inl (k_3_, 2, .inr (.inr (.inr (.inr (va_up (fun _ => none) 0 (some q_4))))))), (q_4, .inr (4, [.int 0, .ref (ah_5 7), .ref (ah_5 8), .int (-2147483648), .int 3, .int 0])), (ah_5 7, .inl (kh_5 4, 32, .inl (fun _ => 0))), (ah_5 8, .inr (3, csF (csr0 0)))] := hD
  have hK : va_K D classes [(km_2 0, .int), (km_2 1, .int), (km_2 2, .byte), (km_2 3, .long), (k_3_, .object R_Hart), (kh_5 4, .int)] s := hK
  refine lv_dup hx hb d_TwinHart_init_43 rfl ?_
  refine lv_iconst (v := 1) hx hb d_TwinHart_init_44 rfl ?_
  refine va_new (D := D) (ci := 4) (fs := [.int 0, .null, .null, .int 0, .int 0, .int 0]) (C := R_Hart) (T := F_Hart) (N := 6) hx hb hts i_Hart t_Hart t_Hart_ok hown (hts _ k_74) (hts _ k_76) (hts _ k_5) hK hP hD hS hA rfl (by decide +kernel) (Nat.le_of_ble_eq_true rfl) (Nat.le_of_ble_eq_true rfl) d_TwinHart_init_45 (fun q_6 H hP hD hS => ?_)
  have hP : va_P D classes [(h0, .inr (0, [.ref q_1, .null])), (q_1, .inr (1, [.ref (am_2 3), .ref (am_2 1), .ref (am_2 4), .int 0, .ref (am_2 5)])), (am_2 1, .inr (2, [.ref (am_2 2)])), (am_2 2, .inl (km_2 0, 8, .inl (sp_Clint_restart (fun _ => 0)))), (am_2 3, .inl (km_2 1, nW x0, .inl (fun _ => 0))), (am_2 4, .inl (km_2 2, 256, .inl (fun _ => 0))), (am_2 5, .inl (km_2 3, 2, .inr (.inl (vp_updL (vp_updL (fun _ => 0) 0 (-1)) 1 (-1))))), (q_3, .inl (k_3_, 2, .inr (.inr (.inr (.inr (va_up (fun _ => none) 0 (some q_4))))))), (q_4, .inr (4, [.int 0, .ref (ah_5 7), .ref (ah_5 8), .int (-2147483648), .int 3, .int 0])), (ah_5 7, .inl (kh_5 4, 32, .inl (fun _ => 0))), (ah_5 8, .inr (3, csF (csr0 0))), (q_6, .inr (4, [.int 0, .null, .null, .int 0, .int 0, .int 0]))] H := hP
  have hD : va_D A [(h0, .inr (0, [.ref q_1, .null])), (q_1, .inr (1, [.ref (am_2 3), .ref (am_2 1), .ref (am_2 4), .int 0, .ref (am_2 5)])), (am_2 1, .inr (2, [.ref (am_2 2)])), (am_2 2, .inl (km_2 0, 8, .inl (sp_Clint_restart (fun _ => 0)))), (am_2 3, .inl (km_2 1, nW x0, .inl (fun _ => 0))), (am_2 4, .inl (km_2 2, 256, .inl (fun _ => 0))), (am_2 5, .inl (km_2 3, 2, .inr (.inl (vp_updL (vp_updL (fun _ => 0) 0 (-1)) 1 (-1))))), (q_3, .inl (k_3_, 2, .inr (.inr (.inr (.inr (va_up (fun _ => none) 0 (some q_4))))))), (q_4, .inr (4, [.int 0, .ref (ah_5 7), .ref (ah_5 8), .int (-2147483648), .int 3, .int 0])), (ah_5 7, .inl (kh_5 4, 32, .inl (fun _ => 0))), (ah_5 8, .inr (3, csF (csr0 0))), (q_6, .inr (4, [.int 0, .null, .null, .int 0, .int 0, .int 0]))] := hD
  have hK : va_K D classes [(km_2 0, .int), (km_2 1, .int), (km_2 2, .byte), (km_2 3, .long), (k_3_, .object R_Hart), (kh_5 4, .int)] s := hK
  refine lv_dup hx hb d_TwinHart_init_48 rfl ?_
  refine lv_iconst (v := 1) hx hb d_TwinHart_init_49 rfl ?_
  refine xI (wr := [(h0, .inr (0, [.ref q_1, .null])), (q_1, .inr (1, [.ref (am_2 3), .ref (am_2 1), .ref (am_2 4), .int 0, .ref (am_2 5)])), (am_2 1, .inr (2, [.ref (am_2 2)])), (am_2 2, .inl (km_2 0, 8, .inl (sp_Clint_restart (fun _ => 0)))), (am_2 3, .inl (km_2 1, nW x0, .inl (fun _ => 0))), (am_2 4, .inl (km_2 2, 256, .inl (fun _ => 0))), (am_2 5, .inl (km_2 3, 2, .inr (.inl (vp_updL (vp_updL (fun _ => 0) 0 (-1)) 1 (-1))))), (q_3, .inl (k_3_, 2, .inr (.inr (.inr (.inr (va_up (fun _ => none) 0 (some q_4))))))), (q_4, .inr (4, [.int 0, .ref (ah_5 7), .ref (ah_5 8), .int (-2147483648), .int 3, .int 0])), (ah_5 7, .inl (kh_5 4, 32, .inl (fun _ => 0))), (ah_5 8, .inr (3, csF (csr0 0)))]) (rest := [.ref q_6, .int 1, .ref q_3, .ref q_3, .ref h0]) ⟨hx, hb, hml, hown, hts⟩ (c_Hart_init q_6 1) mw_Hart_init mi_Hart_init rfl k_77 ⟨Nat.le_of_ble_eq_true rfl, Nat.le_of_ble_eq_true rfl⟩ (fun _ _ => trivial) (fun _ _ _ _ _ => trivial) hK hP hD hS hA hF [11] [0, 1, 2, 3, 4, 5, 6, 7, 8, 9, 10] rfl rfl rfl rfl (by decide) rfl hl.1 rfl (Nat.le_of_ble_eq_true rfl) d_TwinHart_init_50 ⟨Nat.le_of_ble_eq_true rfl, Nat.le_of_ble_eq_true rfl⟩ (fun u_7 H locs h_7 hK hP hD hS => ?_)
  obtain ⟨ah_7, kh_7⟩ := u_7
  have hP : va_P D classes [(h0, .inr (0, [.ref q_1, .null])), (q_1, .inr (1, [.ref (am_2 3), .ref (am_2 1), .ref (am_2 4), .int 0, .ref (am_2 5)])), (am_2 1, .inr (2, [.ref (am_2 2)])), (am_2 2, .inl (km_2 0, 8, .inl (sp_Clint_restart (fun _ => 0)))), (am_2 3, .inl (km_2 1, nW x0, .inl (fun _ => 0))), (am_2 4, .inl (km_2 2, 256, .inl (fun _ => 0))), (am_2 5, .inl (km_2 3, 2, .inr (.inl (vp_updL (vp_updL (fun _ => 0) 0 (-1)) 1 (-1))))), (q_3, .inl (k_3_, 2, .inr (.inr (.inr (.inr (va_up (fun _ => none) 0 (some q_4))))))), (q_4, .inr (4, [.int 0, .ref (ah_5 7), .ref (ah_5 8), .int (-2147483648), .int 3, .int 0])), (ah_5 7, .inl (kh_5 4, 32, .inl (fun _ => 0))), (ah_5 8, .inr (3, csF (csr0 0))), (q_6, .inr (4, [.int 1, .ref (ah_7 7), .ref (ah_7 8), .int (-2147483648), .int 3, .int 0])), (ah_7 7, .inl (kh_7 4, 32, .inl (fun _ => 0))), (ah_7 8, .inr (3, csF (csr0 1)))] H := hP
  have hD : va_D A [(h0, .inr (0, [.ref q_1, .null])), (q_1, .inr (1, [.ref (am_2 3), .ref (am_2 1), .ref (am_2 4), .int 0, .ref (am_2 5)])), (am_2 1, .inr (2, [.ref (am_2 2)])), (am_2 2, .inl (km_2 0, 8, .inl (sp_Clint_restart (fun _ => 0)))), (am_2 3, .inl (km_2 1, nW x0, .inl (fun _ => 0))), (am_2 4, .inl (km_2 2, 256, .inl (fun _ => 0))), (am_2 5, .inl (km_2 3, 2, .inr (.inl (vp_updL (vp_updL (fun _ => 0) 0 (-1)) 1 (-1))))), (q_3, .inl (k_3_, 2, .inr (.inr (.inr (.inr (va_up (fun _ => none) 0 (some q_4))))))), (q_4, .inr (4, [.int 0, .ref (ah_5 7), .ref (ah_5 8), .int (-2147483648), .int 3, .int 0])), (ah_5 7, .inl (kh_5 4, 32, .inl (fun _ => 0))), (ah_5 8, .inr (3, csF (csr0 0))), (q_6, .inr (4, [.int 1, .ref (ah_7 7), .ref (ah_7 8), .int (-2147483648), .int 3, .int 0])), (ah_7 7, .inl (kh_7 4, 32, .inl (fun _ => 0))), (ah_7 8, .inr (3, csF (csr0 1)))] := hD
  have hK : va_K D classes [(km_2 0, .int), (km_2 1, .int), (km_2 2, .byte), (km_2 3, .long), (k_3_, .object R_Hart), (kh_5 4, .int), (kh_7 4, .int)] s := hK
  refine va_astq (r := (R_Hart, F_Hart, 6)) hx hb hK hP hD hS 7 4 11 4 rfl rfl rfl rfl (by unfold vp_in; decide) d_TwinHart_init_53 (fun H locs hP hD hS => ?_)
  have hP : va_P D classes [(h0, .inr (0, [.ref q_1, .null])), (q_1, .inr (1, [.ref (am_2 3), .ref (am_2 1), .ref (am_2 4), .int 0, .ref (am_2 5)])), (am_2 1, .inr (2, [.ref (am_2 2)])), (am_2 2, .inl (km_2 0, 8, .inl (sp_Clint_restart (fun _ => 0)))), (am_2 3, .inl (km_2 1, nW x0, .inl (fun _ => 0))), (am_2 4, .inl (km_2 2, 256, .inl (fun _ => 0))), (am_2 5, .inl (km_2 3, 2, .inr (.inl (vp_updL (vp_updL (fun _ => 0) 0 (-1)) 1 (-1))))), (q_3, .inl (k_3_, 2, .inr (.inr (.inr (.inr (va_up (va_up (fun _ => none) 0 (some q_4)) 1 (some q_6))))))), (q_4, .inr (4, [.int 0, .ref (ah_5 7), .ref (ah_5 8), .int (-2147483648), .int 3, .int 0])), (ah_5 7, .inl (kh_5 4, 32, .inl (fun _ => 0))), (ah_5 8, .inr (3, csF (csr0 0))), (q_6, .inr (4, [.int 1, .ref (ah_7 7), .ref (ah_7 8), .int (-2147483648), .int 3, .int 0])), (ah_7 7, .inl (kh_7 4, 32, .inl (fun _ => 0))), (ah_7 8, .inr (3, csF (csr0 1)))] H := hP
  have hD : va_D A [(h0, .inr (0, [.ref q_1, .null])), (q_1, .inr (1, [.ref (am_2 3), .ref (am_2 1), .ref (am_2 4), .int 0, .ref (am_2 5)])), (am_2 1, .inr (2, [.ref (am_2 2)])), (am_2 2, .inl (km_2 0, 8, .inl (sp_Clint_restart (fun _ => 0)))), (am_2 3, .inl (km_2 1, nW x0, .inl (fun _ => 0))), (am_2 4, .inl (km_2 2, 256, .inl (fun _ => 0))), (am_2 5, .inl (km_2 3, 2, .inr (.inl (vp_updL (vp_updL (fun _ => 0) 0 (-1)) 1 (-1))))), (q_3, .inl (k_3_, 2, .inr (.inr (.inr (.inr (va_up (va_up (fun _ => none) 0 (some q_4)) 1 (some q_6))))))), (q_4, .inr (4, [.int 0, .ref (ah_5 7), .ref (ah_5 8), .int (-2147483648), .int 3, .int 0])), (ah_5 7, .inl (kh_5 4, 32, .inl (fun _ => 0))), (ah_5 8, .inr (3, csF (csr0 0))), (q_6, .inr (4, [.int 1, .ref (ah_7 7), .ref (ah_7 8), .int (-2147483648), .int 3, .int 0])), (ah_7 7, .inl (kh_7 4, 32, .inl (fun _ => 0))), (ah_7 8, .inr (3, csF (csr0 1)))] := hD
  have hK : va_K D classes [(km_2 0, .int), (km_2 1, .int), (km_2 2, .byte), (km_2 3, .long), (k_3_, .object R_Hart), (kh_5 4, .int), (kh_7 4, .int)] s := hK
  refine y_putF (D := D) (ci := 0) (v := .ref q_3) (ty := (.array (.object "TwinHart$Hart"))) (C := R_TwinHart) (T := F_TwinHart) (N := 2) (ws' := [(h0, .inr (0, [.ref q_1, .ref q_3])), (q_1, .inr (1, [.ref (am_2 3), .ref (am_2 1), .ref (am_2 4), .int 0, .ref (am_2 5)])), (am_2 1, .inr (2, [.ref (am_2 2)])), (am_2 2, .inl (km_2 0, 8, .inl (sp_Clint_restart (fun _ => 0)))), (am_2 3, .inl (km_2 1, nW x0, .inl (fun _ => 0))), (am_2 4, .inl (km_2 2, 256, .inl (fun _ => 0))), (am_2 5, .inl (km_2 3, 2, .inr (.inl (vp_updL (vp_updL (fun _ => 0) 0 (-1)) 1 (-1))))), (q_3, .inl (k_3_, 2, .inr (.inr (.inr (.inr (va_up (va_up (fun _ => none) 0 (some q_4)) 1 (some q_6))))))), (q_4, .inr (4, [.int 0, .ref (ah_5 7), .ref (ah_5 8), .int (-2147483648), .int 3, .int 0])), (ah_5 7, .inl (kh_5 4, 32, .inl (fun _ => 0))), (ah_5 8, .inr (3, csF (csr0 0))), (q_6, .inr (4, [.int 1, .ref (ah_7 7), .ref (ah_7 8), .int (-2147483648), .int 3, .int 0])), (ah_7 7, .inl (kh_7 4, 32, .inl (fun _ => 0))), (ah_7 8, .inr (3, csF (csr0 1)))]) hx hb hts i_TwinHart t_TwinHart t_TwinHart_ok n_TwinHart hown hK hP hD hS 0 rfl rfl 1 (by decide) (hts _ k_167) (fun _ h9 => h9) rfl hin rfl (by decide +kernel) rfl rfl (Nat.le_of_ble_eq_true rfl) d_TwinHart_init_54 rfl (fun H locs hP hD hS => ?_)
  exact rvI (q_3, k_3_, (hA0 q_1 am_2), (hA6 q_4 ah_5), (hA6 q_6 ah_7), km_2, kh_5, kh_7) hx hb hr hlocks (hP.sub [0, 7, 1, 2, 3, 4, 5, 6, 8, 9, 10, 11, 12, 13] rfl) (hK.sub [0, 1, 2, 3, 5, 6, 4] rfl) (hD.sub [0, 7, 1, 2, 3, 4, 5, 6, 8, 9, 10, 11, 12, 13] (by decide) rfl) hS d_TwinHart_init_57 trivial (by decide) (by decide)
set_option maxHeartbeats 4000000 in
set_option maxRecDepth 100000 in
theorem c_Model_init {l : Launch} {D : va_G} {g : Nat → Nat} (h0 : Nat) (x0 : Int32) : CI l D g (fun _ => True) y_Model_init b_Model_init 2 1 [.ref h0, .int x0] [(h0, .inr (5, [.int 0, .null, .null, .null, .null, .null, .null, .null, .null, .long 0, .null, .int 0, .int 0, .int 0, .int 0, .int 0]))] (fun u : (Nat → Nat) × (Nat → ClassId) × bgT => u.1 0 = h0 ∧ bgP (fun _ => 0) (fun _ => 0) (fun _ => 0) (fun _ => 0) (fun _ => 0) u.2.2) (fun u => bgW u.1 u.2.1 (nW x0) 0 0 0 0 (fun _ => 0) (fun _ => 0) 0 u.2.2) (fun u => tyR u.2.1) 9 24906 := by
  refine CI.of rfl rfl (Nat.le_of_ble_eq_true rfl) (fun p e s m below meth c A ls hx hb hr hml hts hown hlocks hin hA hP hK hD hF hS hE hl => ?_)
  have hl : lv_has ls 2 [(0, .ref h0), (1, .int x0)] := hl
  refine lv_aload_n hx hb d_Model_init_0 rfl (lv_at hl 0 rfl) ?_
  refine W.objInit hx hb hown (hts _ k_618) (hts _ ko_1) (hts _ ko_2) rfl (by rw [hml]; exact hl.1) rfl d_Model_init_1 (Nat.le_of_ble_eq_true rfl) (Nat.le_of_ble_eq_true rfl) ?_
  refine W.eq (g2 := F0 m 4 ls []) rfl ?_
  refine lv_aload_n hx hb d_Model_init_4 rfl (lv_at hl 0 rfl) ?_
  refine lv_sipush (v := 16384) hx hb d_Model_init_5 rfl ?_
  refine va_newa (atype := .byte) (a0 := (16384, .inl (fun _ => 0))) (ty := .byte) hx hb (hts _ ka_byte) rfl hK hP hD hS hA (fun _ => rfl) (by decide) rfl (by show 16384 * _ ≤ _; first | decide | (simp only [componentBytes]; omega)) (Nat.le_of_ble_eq_true rfl) (Nat.le_of_ble_eq_true rfl) d_Model_init_8 (fun q_1 k_1_ H hK hP hD hS => ?_)
  have hP : va_P D classes [(h0, .inr (5, [.int 0, .null, .null, .null, .null, .null, .null, .null, .null, .long 0, .null, .int 0, .int 0, .int 0, .int 0, .int 0])), (q_1, .inl (k_1_, 16384, .inl (fun _ => 0)))] H := hP
  have hD : va_D A [(h0, .inr (5, [.int 0, .null, .null, .null, .null, .null, .null, .null, .null, .long 0, .null, .int 0, .int 0, .int 0, .int 0, .int 0])), (q_1, .inl (k_1_, 16384, .inl (fun _ => 0)))] := hD
  have hK : va_K D classes [(k_1_, .byte)] s := hK
  refine y_putF (D := D) (ci := 5) (v := .ref q_1) (ty := (.array .byte)) (C := R_Model) (T := F_Model) (N := 16) (ws' := [(h0, .inr (5, [.int 0, .ref q_1, .null, .null, .null, .null, .null, .null, .null, .long 0, .null, .int 0, .int 0, .int 0, .int 0, .int 0])), (q_1, .inl (k_1_, 16384, .inl (fun _ => 0)))]) hx hb hts i_Model t_Model t_Model_ok n_Model hown hK hP hD hS 0 rfl rfl 1 (by decide) (hts _ k_626) (fun _ h9 => h9) rfl hin rfl (by decide +kernel) rfl rfl (Nat.le_of_ble_eq_true rfl) d_Model_init_10 rfl (fun H locs hP hD hS => ?_)
  refine lv_aload_n hx hb d_Model_init_13 rfl (lv_at hl 0 rfl) ?_
  refine lv_bipush (v := 64) hx hb d_Model_init_14 rfl ?_
  refine va_newa (atype := .int) (a0 := (64, .inl (fun _ => 0))) (ty := .int) hx hb (hts _ ka_int) rfl hK hP hD hS hA (fun _ => rfl) (by decide) rfl (by show 64 * _ ≤ _; first | decide | (simp only [componentBytes]; omega)) (Nat.le_of_ble_eq_true rfl) (Nat.le_of_ble_eq_true rfl) d_Model_init_16 (fun q_2 k_2_ H hK hP hD hS => ?_)
  have hP : va_P D classes [(h0, .inr (5, [.int 0, .ref q_1, .null, .null, .null, .null, .null, .null, .null, .long 0, .null, .int 0, .int 0, .int 0, .int 0, .int 0])), (q_1, .inl (k_1_, 16384, .inl (fun _ => 0))), (q_2, .inl (k_2_, 64, .inl (fun _ => 0)))] H := hP
  have hD : va_D A [(h0, .inr (5, [.int 0, .ref q_1, .null, .null, .null, .null, .null, .null, .null, .long 0, .null, .int 0, .int 0, .int 0, .int 0, .int 0])), (q_1, .inl (k_1_, 16384, .inl (fun _ => 0))), (q_2, .inl (k_2_, 64, .inl (fun _ => 0)))] := hD
  have hK : va_K D classes [(k_1_, .byte), (k_2_, .int)] s := hK
  refine y_putF (D := D) (ci := 5) (v := .ref q_2) (ty := (.array .int)) (C := R_Model) (T := F_Model) (N := 16) (ws' := [(h0, .inr (5, [.int 0, .ref q_1, .ref q_2, .null, .null, .null, .null, .null, .null, .long 0, .null, .int 0, .int 0, .int 0, .int 0, .int 0])), (q_1, .inl (k_1_, 16384, .inl (fun _ => 0))), (q_2, .inl (k_2_, 64, .inl (fun _ => 0)))]) hx hb hts i_Model t_Model t_Model_ok n_Model hown hK hP hD hS 0 rfl rfl 2 (by decide) (hts _ k_627) (fun _ h9 => h9) rfl hin rfl (by decide +kernel) rfl rfl (Nat.le_of_ble_eq_true rfl) d_Model_init_18 rfl (fun H locs hP hD hS => ?_)
  refine lv_aload_n hx hb d_Model_init_21 rfl (lv_at hl 0 rfl) ?_
  refine lv_iconst (v := 2) hx hb d_Model_init_22 rfl ?_
  refine va_newa (atype := .int) (a0 := (2, .inl (fun _ => 0))) (ty := .int) hx hb (hts _ ka_int) rfl hK hP hD hS hA (fun _ => rfl) (by decide) rfl (by show 2 * _ ≤ _; first | decide | (simp only [componentBytes]; omega)) (Nat.le_of_ble_eq_true rfl) (Nat.le_of_ble_eq_true rfl) d_Model_init_23 (fun q_3 k_3_ H hK hP hD hS => ?_)
  have hP : va_P D classes [(h0, .inr (5, [.int 0, .ref q_1, .ref q_2, .null, .null, .null, .null, .null, .null, .long 0, .null, .int 0, .int 0, .int 0, .int 0, .int 0])), (q_1, .inl (k_1_, 16384, .inl (fun _ => 0))), (q_2, .inl (k_2_, 64, .inl (fun _ => 0))), (q_3, .inl (k_3_, 2, .inl (fun _ => 0)))] H := hP
  have hD : va_D A [(h0, .inr (5, [.int 0, .ref q_1, .ref q_2, .null, .null, .null, .null, .null, .null, .long 0, .null, .int 0, .int 0, .int 0, .int 0, .int 0])), (q_1, .inl (k_1_, 16384, .inl (fun _ => 0))), (q_2, .inl (k_2_, 64, .inl (fun _ => 0))), (q_3, .inl (k_3_, 2, .inl (fun _ => 0)))] := hD
  have hK : va_K D classes [(k_1_, .byte), (k_2_, .int), (k_3_, .int)] s := hK
  refine y_putF (D := D) (ci := 5) (v := .ref q_3) (ty := (.array .int)) (C := R_Model) (T := F_Model) (N := 16) (ws' := [(h0, .inr (5, [.int 0, .ref q_1, .ref q_2, .ref q_3, .null, .null, .null, .null, .null, .long 0, .null, .int 0, .int 0, .int 0, .int 0, .int 0])), (q_1, .inl (k_1_, 16384, .inl (fun _ => 0))), (q_2, .inl (k_2_, 64, .inl (fun _ => 0))), (q_3, .inl (k_3_, 2, .inl (fun _ => 0)))]) hx hb hts i_Model t_Model t_Model_ok n_Model hown hK hP hD hS 0 rfl rfl 3 (by decide) (hts _ k_628) (fun _ h9 => h9) rfl hin rfl (by decide +kernel) rfl rfl (Nat.le_of_ble_eq_true rfl) d_Model_init_25 rfl (fun H locs hP hD hS => ?_)
  refine lv_aload_n hx hb d_Model_init_28 rfl (lv_at hl 0 rfl) ?_
  refine lv_iconst (v := 2) hx hb d_Model_init_29 rfl ?_
  refine va_newa (atype := .int) (a0 := (2, .inl (fun _ => 0))) (ty := .int) hx hb (hts _ ka_int) rfl hK hP hD hS hA (fun _ => rfl) (by decide) rfl (by show 2 * _ ≤ _; first | decide | (simp only [componentBytes]; omega)) (Nat.le_of_ble_eq_true rfl) (Nat.le_of_ble_eq_true rfl) d_Model_init_30 (fun q_4 k_4_ H hK hP hD hS => ?_)
  have hP : va_P D classes [(h0, .inr (5, [.int 0, .ref q_1, .ref q_2, .ref q_3, .null, .null, .null, .null, .null, .long 0, .null, .int 0, .int 0, .int 0, .int 0, .int 0])), (q_1, .inl (k_1_, 16384, .inl (fun _ => 0))), (q_2, .inl (k_2_, 64, .inl (fun _ => 0))), (q_3, .inl (k_3_, 2, .inl (fun _ => 0))), (q_4, .inl (k_4_, 2, .inl (fun _ => 0)))] H := hP
  have hD : va_D A [(h0, .inr (5, [.int 0, .ref q_1, .ref q_2, .ref q_3, .null, .null, .null, .null, .null, .long 0, .null, .int 0, .int 0, .int 0, .int 0, .int 0])), (q_1, .inl (k_1_, 16384, .inl (fun _ => 0))), (q_2, .inl (k_2_, 64, .inl (fun _ => 0))), (q_3, .inl (k_3_, 2, .inl (fun _ => 0))), (q_4, .inl (k_4_, 2, .inl (fun _ => 0)))] := hD
  have hK : va_K D classes [(k_1_, .byte), (k_2_, .int), (k_3_, .int), (k_4_, .int)] s := hK
  refine y_putF (D := D) (ci := 5) (v := .ref q_4) (ty := (.array .int)) (C := R_Model) (T := F_Model) (N := 16) (ws' := [(h0, .inr (5, [.int 0, .ref q_1, .ref q_2, .ref q_3, .ref q_4, .null, .null, .null, .null, .long 0, .null, .int 0, .int 0, .int 0, .int 0, .int 0])), (q_1, .inl (k_1_, 16384, .inl (fun _ => 0))), (q_2, .inl (k_2_, 64, .inl (fun _ => 0))), (q_3, .inl (k_3_, 2, .inl (fun _ => 0))), (q_4, .inl (k_4_, 2, .inl (fun _ => 0)))]) hx hb hts i_Model t_Model t_Model_ok n_Model hown hK hP hD hS 0 rfl rfl 4 (by decide) (hts _ k_629) (fun _ h9 => h9) rfl hin rfl (by decide +kernel) rfl rfl (Nat.le_of_ble_eq_true rfl) d_Model_init_32 rfl (fun H locs hP hD hS => ?_)
  refine lv_aload_n hx hb d_Model_init_35 rfl (lv_at hl 0 rfl) ?_
  refine lv_sipush (v := 8192) hx hb d_Model_init_36 rfl ?_
  refine va_newa (atype := .int) (a0 := (8192, .inl (fun _ => 0))) (ty := .int) hx hb (hts _ ka_int) rfl hK hP hD hS hA (fun _ => rfl) (by decide) rfl (by show 8192 * _ ≤ _; first | decide | (simp only [componentBytes]; omega)) (Nat.le_of_ble_eq_true rfl) (Nat.le_of_ble_eq_true rfl) d_Model_init_39 (fun q_5 k_5_ H hK hP hD hS => ?_)
  have hP : va_P D classes [(h0, .inr (5, [.int 0, .ref q_1, .ref q_2, .ref q_3, .ref q_4, .null, .null, .null, .null, .long 0, .null, .int 0, .int 0, .int 0, .int 0, .int 0])), (q_1, .inl (k_1_, 16384, .inl (fun _ => 0))), (q_2, .inl (k_2_, 64, .inl (fun _ => 0))), (q_3, .inl (k_3_, 2, .inl (fun _ => 0))), (q_4, .inl (k_4_, 2, .inl (fun _ => 0))), (q_5, .inl (k_5_, 8192, .inl (fun _ => 0)))] H := hP
  have hD : va_D A [(h0, .inr (5, [.int 0, .ref q_1, .ref q_2, .ref q_3, .ref q_4, .null, .null, .null, .null, .long 0, .null, .int 0, .int 0, .int 0, .int 0, .int 0])), (q_1, .inl (k_1_, 16384, .inl (fun _ => 0))), (q_2, .inl (k_2_, 64, .inl (fun _ => 0))), (q_3, .inl (k_3_, 2, .inl (fun _ => 0))), (q_4, .inl (k_4_, 2, .inl (fun _ => 0))), (q_5, .inl (k_5_, 8192, .inl (fun _ => 0)))] := hD
  have hK : va_K D classes [(k_1_, .byte), (k_2_, .int), (k_3_, .int), (k_4_, .int), (k_5_, .int)] s := hK
  refine y_putF (D := D) (ci := 5) (v := .ref q_5) (ty := (.array .int)) (C := R_Model) (T := F_Model) (N := 16) (ws' := [(h0, .inr (5, [.int 0, .ref q_1, .ref q_2, .ref q_3, .ref q_4, .ref q_5, .null, .null, .null, .long 0, .null, .int 0, .int 0, .int 0, .int 0, .int 0])), (q_1, .inl (k_1_, 16384, .inl (fun _ => 0))), (q_2, .inl (k_2_, 64, .inl (fun _ => 0))), (q_3, .inl (k_3_, 2, .inl (fun _ => 0))), (q_4, .inl (k_4_, 2, .inl (fun _ => 0))), (q_5, .inl (k_5_, 8192, .inl (fun _ => 0)))]) hx hb hts i_Model t_Model t_Model_ok n_Model hown hK hP hD hS 0 rfl rfl 5 (by decide) (hts _ k_630) (fun _ h9 => h9) rfl hin rfl (by decide +kernel) rfl rfl (Nat.le_of_ble_eq_true rfl) d_Model_init_41 rfl (fun H locs hP hD hS => ?_)
  refine lv_aload_n hx hb d_Model_init_44 rfl (lv_at hl 0 rfl) ?_
  refine lv_iconst (v := 2) hx hb d_Model_init_45 rfl ?_
  refine va_newa (atype := .int) (a0 := (2, .inl (fun _ => 0))) (ty := .int) hx hb (hts _ ka_int) rfl hK hP hD hS hA (fun _ => rfl) (by decide) rfl (by show 2 * _ ≤ _; first | decide | (simp only [componentBytes]; omega)) (Nat.le_of_ble_eq_true rfl) (Nat.le_of_ble_eq_true rfl) d_Model_init_46 (fun q_6 k_6_ H hK hP hD hS => ?_)
  have hP : va_P D classes [(h0, .inr (5, [.int 0, .ref q_1, .ref q_2, .ref q_3, .ref q_4, .ref q_5, .null, .null, .null, .long 0, .null, .int 0, .int 0, .int 0, .int 0, .int 0])), (q_1, .inl (k_1_, 16384, .inl (fun _ => 0))), (q_2, .inl (k_2_, 64, .inl (fun _ => 0))), (q_3, .inl (k_3_, 2, .inl (fun _ => 0))), (q_4, .inl (k_4_, 2, .inl (fun _ => 0))), (q_5, .inl (k_5_, 8192, .inl (fun _ => 0))), (q_6, .inl (k_6_, 2, .inl (fun _ => 0)))] H := hP
  have hD : va_D A [(h0, .inr (5, [.int 0, .ref q_1, .ref q_2, .ref q_3, .ref q_4, .ref q_5, .null, .null, .null, .long 0, .null, .int 0, .int 0, .int 0, .int 0, .int 0])), (q_1, .inl (k_1_, 16384, .inl (fun _ => 0))), (q_2, .inl (k_2_, 64, .inl (fun _ => 0))), (q_3, .inl (k_3_, 2, .inl (fun _ => 0))), (q_4, .inl (k_4_, 2, .inl (fun _ => 0))), (q_5, .inl (k_5_, 8192, .inl (fun _ => 0))), (q_6, .inl (k_6_, 2, .inl (fun _ => 0)))] := hD
  have hK : va_K D classes [(k_1_, .byte), (k_2_, .int), (k_3_, .int), (k_4_, .int), (k_5_, .int), (k_6_, .int)] s := hK
  refine y_putF (D := D) (ci := 5) (v := .ref q_6) (ty := (.array .int)) (C := R_Model) (T := F_Model) (N := 16) (ws' := [(h0, .inr (5, [.int 0, .ref q_1, .ref q_2, .ref q_3, .ref q_4, .ref q_5, .ref q_6, .null, .null, .long 0, .null, .int 0, .int 0, .int 0, .int 0, .int 0])), (q_1, .inl (k_1_, 16384, .inl (fun _ => 0))), (q_2, .inl (k_2_, 64, .inl (fun _ => 0))), (q_3, .inl (k_3_, 2, .inl (fun _ => 0))), (q_4, .inl (k_4_, 2, .inl (fun _ => 0))), (q_5, .inl (k_5_, 8192, .inl (fun _ => 0))), (q_6, .inl (k_6_, 2, .inl (fun _ => 0)))]) hx hb hts i_Model t_Model t_Model_ok n_Model hown hK hP hD hS 0 rfl rfl 6 (by decide) (hts _ k_631) (fun _ h9 => h9) rfl hin rfl (by decide +kernel) rfl rfl (Nat.le_of_ble_eq_true rfl) d_Model_init_48 rfl (fun H locs hP hD hS => ?_)
  refine lv_aload_n hx hb d_Model_init_51 rfl (lv_at hl 0 rfl) ?_
  refine lv_iconst (v := 2) hx hb d_Model_init_52 rfl ?_
  refine va_newa (atype := .long) (a0 := (2, .inr (.inl (fun _ => 0)))) (ty := .long) hx hb (hts _ ka_long) rfl hK hP hD hS hA (fun _ => rfl) (by decide) rfl (by show 2 * _ ≤ _; first | decide | (simp only [componentBytes]; omega)) (Nat.le_of_ble_eq_true rfl) (Nat.le_of_ble_eq_true rfl) d_Model_init_53 (fun q_7 k_7_ H hK hP hD hS => ?_)
  have hP : va_P D classes [(h0, .inr (5, [.int 0, .ref q_1, .ref q_2, .ref q_3, .ref q_4, .ref q_5, .ref q_6, .null, .null, .long 0, .null, .int 0, .int 0, .int 0, .int 0, .int 0])), (q_1, .inl (k_1_, 16384, .inl (fun _ => 0))), (q_2, .inl (k_2_, 64, .inl (fun _ => 0))), (q_3, .inl (k_3_, 2, .inl (fun _ => 0))), (q_4, .inl (k_4_, 2, .inl (fun _ => 0))), (q_5, .inl (k_5_, 8192, .inl (fun _ => 0))), (q_6, .inl (k_6_, 2, .inl (fun _ => 0))), (q_7, .inl (k_7_, 2, .inr (.inl (fun _ => 0))))] H := hP
  have hD : va_D A [(h0, .inr (5, [.int 0, .ref q_1, .ref q_2, .ref q_3, .ref q_4, .ref q_5, .ref q_6, .null, .null, .long 0, .null, .int 0, .int 0, .int 0, .int 0, .int 0])), (q_1, .inl (k_1_, 16384, .inl (fun _ => 0))), (q_2, .inl (k_2_, 64, .inl (fun _ => 0))), (q_3, .inl (k_3_, 2, .inl (fun _ => 0))), (q_4, .inl (k_4_, 2, .inl (fun _ => 0))), (q_5, .inl (k_5_, 8192, .inl (fun _ => 0))), (q_6, .inl (k_6_, 2, .inl (fun _ => 0))), (q_7, .inl (k_7_, 2, .inr (.inl (fun _ => 0))))] := hD
  have hK : va_K D classes [(k_1_, .byte), (k_2_, .int), (k_3_, .int), (k_4_, .int), (k_5_, .int), (k_6_, .int), (k_7_, .long)] s := hK
  refine y_putF (D := D) (ci := 5) (v := .ref q_7) (ty := (.array .long)) (C := R_Model) (T := F_Model) (N := 16) (ws' := [(h0, .inr (5, [.int 0, .ref q_1, .ref q_2, .ref q_3, .ref q_4, .ref q_5, .ref q_6, .ref q_7, .null, .long 0, .null, .int 0, .int 0, .int 0, .int 0, .int 0])), (q_1, .inl (k_1_, 16384, .inl (fun _ => 0))), (q_2, .inl (k_2_, 64, .inl (fun _ => 0))), (q_3, .inl (k_3_, 2, .inl (fun _ => 0))), (q_4, .inl (k_4_, 2, .inl (fun _ => 0))), (q_5, .inl (k_5_, 8192, .inl (fun _ => 0))), (q_6, .inl (k_6_, 2, .inl (fun _ => 0))), (q_7, .inl (k_7_, 2, .inr (.inl (fun _ => 0))))]) hx hb hts i_Model t_Model t_Model_ok n_Model hown hK hP hD hS 0 rfl rfl 7 (by decide) (hts _ k_632) (fun _ h9 => h9) rfl hin rfl (by decide +kernel) rfl rfl (Nat.le_of_ble_eq_true rfl) d_Model_init_55 rfl (fun H locs hP hD hS => ?_)
  refine lv_aload_n hx hb d_Model_init_58 rfl (lv_at hl 0 rfl) ?_
  refine lv_iconst (v := 2) hx hb d_Model_init_59 rfl ?_
  refine va_newa (atype := .int) (a0 := (2, .inl (fun _ => 0))) (ty := .int) hx hb (hts _ ka_int) rfl hK hP hD hS hA (fun _ => rfl) (by decide) rfl (by show 2 * _ ≤ _; first | decide | (simp only [componentBytes]; omega)) (Nat.le_of_ble_eq_true rfl) (Nat.le_of_ble_eq_true rfl) d_Model_init_60 (fun q_8 k_8_ H hK hP hD hS => ?_)
  have hP : va_P D classes [(h0, .inr (5, [.int 0, .ref q_1, .ref q_2, .ref q_3, .ref q_4, .ref q_5, .ref q_6, .ref q_7, .null, .long 0, .null, .int 0, .int 0, .int 0, .int 0, .int 0])), (q_1, .inl (k_1_, 16384, .inl (fun _ => 0))), (q_2, .inl (k_2_, 64, .inl (fun _ => 0))), (q_3, .inl (k_3_, 2, .inl (fun _ => 0))), (q_4, .inl (k_4_, 2, .inl (fun _ => 0))), (q_5, .inl (k_5_, 8192, .inl (fun _ => 0))), (q_6, .inl (k_6_, 2, .inl (fun _ => 0))), (q_7, .inl (k_7_, 2, .inr (.inl (fun _ => 0)))), (q_8, .inl (k_8_, 2, .inl (fun _ => 0)))] H := hP
  have hD : va_D A [(h0, .inr (5, [.int 0, .ref q_1, .ref q_2, .ref q_3, .ref q_4, .ref q_5, .ref q_6, .ref q_7, .null, .long 0, .null, .int 0, .int 0, .int 0, .int 0, .int 0])), (q_1, .inl (k_1_, 16384, .inl (fun _ => 0))), (q_2, .inl (k_2_, 64, .inl (fun _ => 0))), (q_3, .inl (k_3_, 2, .inl (fun _ => 0))), (q_4, .inl (k_4_, 2, .inl (fun _ => 0))), (q_5, .inl (k_5_, 8192, .inl (fun _ => 0))), (q_6, .inl (k_6_, 2, .inl (fun _ => 0))), (q_7, .inl (k_7_, 2, .inr (.inl (fun _ => 0)))), (q_8, .inl (k_8_, 2, .inl (fun _ => 0)))] := hD
  have hK : va_K D classes [(k_1_, .byte), (k_2_, .int), (k_3_, .int), (k_4_, .int), (k_5_, .int), (k_6_, .int), (k_7_, .long), (k_8_, .int)] s := hK
  refine y_putF (D := D) (ci := 5) (v := .ref q_8) (ty := (.array .int)) (C := R_Model) (T := F_Model) (N := 16) (ws' := [(h0, .inr (5, [.int 0, .ref q_1, .ref q_2, .ref q_3, .ref q_4, .ref q_5, .ref q_6, .ref q_7, .ref q_8, .long 0, .null, .int 0, .int 0, .int 0, .int 0, .int 0])), (q_1, .inl (k_1_, 16384, .inl (fun _ => 0))), (q_2, .inl (k_2_, 64, .inl (fun _ => 0))), (q_3, .inl (k_3_, 2, .inl (fun _ => 0))), (q_4, .inl (k_4_, 2, .inl (fun _ => 0))), (q_5, .inl (k_5_, 8192, .inl (fun _ => 0))), (q_6, .inl (k_6_, 2, .inl (fun _ => 0))), (q_7, .inl (k_7_, 2, .inr (.inl (fun _ => 0)))), (q_8, .inl (k_8_, 2, .inl (fun _ => 0)))]) hx hb hts i_Model t_Model t_Model_ok n_Model hown hK hP hD hS 0 rfl rfl 8 (by decide) (hts _ k_633) (fun _ h9 => h9) rfl hin rfl (by decide +kernel) rfl rfl (Nat.le_of_ble_eq_true rfl) d_Model_init_62 rfl (fun H locs hP hD hS => ?_)
  refine lv_aload_n hx hb d_Model_init_65 rfl (lv_at hl 0 rfl) ?_
  refine lv_sipush (v := 256) hx hb d_Model_init_66 rfl ?_
  refine va_newa (atype := .int) (a0 := (256, .inl (fun _ => 0))) (ty := .int) hx hb (hts _ ka_int) rfl hK hP hD hS hA (fun _ => rfl) (by decide) rfl (by show 256 * _ ≤ _; first | decide | (simp only [componentBytes]; omega)) (Nat.le_of_ble_eq_true rfl) (Nat.le_of_ble_eq_true rfl) d_Model_init_69 (fun q_9 k_9_ H hK hP hD hS => ?_)
  have hP : va_P D classes [(h0, .inr (5, [.int 0, .ref q_1, .ref q_2, .ref q_3, .ref q_4, .ref q_5, .ref q_6, .ref q_7, .ref q_8, .long 0, .null, .int 0, .int 0, .int 0, .int 0, .int 0])), (q_1, .inl (k_1_, 16384, .inl (fun _ => 0))), (q_2, .inl (k_2_, 64, .inl (fun _ => 0))), (q_3, .inl (k_3_, 2, .inl (fun _ => 0))), (q_4, .inl (k_4_, 2, .inl (fun _ => 0))), (q_5, .inl (k_5_, 8192, .inl (fun _ => 0))), (q_6, .inl (k_6_, 2, .inl (fun _ => 0))), (q_7, .inl (k_7_, 2, .inr (.inl (fun _ => 0)))), (q_8, .inl (k_8_, 2, .inl (fun _ => 0))), (q_9, .inl (k_9_, 256, .inl (fun _ => 0)))] H := hP
  have hD : va_D A [(h0, .inr (5, [.int 0, .ref q_1, .ref q_2, .ref q_3, .ref q_4, .ref q_5, .ref q_6, .ref q_7, .ref q_8, .long 0, .null, .int 0, .int 0, .int 0, .int 0, .int 0])), (q_1, .inl (k_1_, 16384, .inl (fun _ => 0))), (q_2, .inl (k_2_, 64, .inl (fun _ => 0))), (q_3, .inl (k_3_, 2, .inl (fun _ => 0))), (q_4, .inl (k_4_, 2, .inl (fun _ => 0))), (q_5, .inl (k_5_, 8192, .inl (fun _ => 0))), (q_6, .inl (k_6_, 2, .inl (fun _ => 0))), (q_7, .inl (k_7_, 2, .inr (.inl (fun _ => 0)))), (q_8, .inl (k_8_, 2, .inl (fun _ => 0))), (q_9, .inl (k_9_, 256, .inl (fun _ => 0)))] := hD
  have hK : va_K D classes [(k_1_, .byte), (k_2_, .int), (k_3_, .int), (k_4_, .int), (k_5_, .int), (k_6_, .int), (k_7_, .long), (k_8_, .int), (k_9_, .int)] s := hK
  refine y_putF (D := D) (ci := 5) (v := .ref q_9) (ty := (.array .int)) (C := R_Model) (T := F_Model) (N := 16) (ws' := [(h0, .inr (5, [.int 0, .ref q_1, .ref q_2, .ref q_3, .ref q_4, .ref q_5, .ref q_6, .ref q_7, .ref q_8, .long 0, .ref q_9, .int 0, .int 0, .int 0, .int 0, .int 0])), (q_1, .inl (k_1_, 16384, .inl (fun _ => 0))), (q_2, .inl (k_2_, 64, .inl (fun _ => 0))), (q_3, .inl (k_3_, 2, .inl (fun _ => 0))), (q_4, .inl (k_4_, 2, .inl (fun _ => 0))), (q_5, .inl (k_5_, 8192, .inl (fun _ => 0))), (q_6, .inl (k_6_, 2, .inl (fun _ => 0))), (q_7, .inl (k_7_, 2, .inr (.inl (fun _ => 0)))), (q_8, .inl (k_8_, 2, .inl (fun _ => 0))), (q_9, .inl (k_9_, 256, .inl (fun _ => 0)))]) hx hb hts i_Model t_Model t_Model_ok n_Model hown hK hP hD hS 0 rfl rfl 10 (by decide) (hts _ k_635) (fun _ h9 => h9) rfl hin rfl (by decide +kernel) rfl rfl (Nat.le_of_ble_eq_true rfl) d_Model_init_71 rfl (fun H locs hP hD hS => ?_)
  refine lv_aload_n hx hb d_Model_init_74 rfl (lv_at hl 0 rfl) ?_
  refine lv_iload_n hx hb d_Model_init_75 rfl (lv_at hl 1 rfl) ?_
  refine lv_bipush (v := 16) hx hb d_Model_init_76 rfl ?_
  refine lv_icmp_ge (tgt := 86) hx hb d_Model_init_78 (by decide) (fun c_10 => ?_) (fun c_10 => ?_)
  · refine lv_iload_n hx hb d_Model_init_86 rfl (lv_at hl 1 rfl) ?_
    refine lv_sipush (v := 4096) hx hb d_Model_init_87 rfl ?_
    refine lv_icmp_le (tgt := 99) hx hb d_Model_init_90 (by decide) (fun c_11 => ?_) (fun c_11 => ?_)
    · refine lv_iload_n hx hb d_Model_init_99 rfl (lv_at hl 1 rfl) ?_
      refine lv_topi (fun y9 ey9 => ?_)
      obtain rfl : y9 = nI (nW x0) := ey9.trans (by exact (nW_mid c_10 c_11).symm)
      refine y_putF (D := D) (ci := 5) (v := .int (nI (nW x0))) (ty := .int) (C := R_Model) (T := F_Model) (N := 16) (ws' := [(h0, .inr (5, [.int (nI (nW x0)), .ref q_1, .ref q_2, .ref q_3, .ref q_4, .ref q_5, .ref q_6, .ref q_7, .ref q_8, .long 0, .ref q_9, .int 0, .int 0, .int 0, .int 0, .int 0])), (q_1, .inl (k_1_, 16384, .inl (fun _ => 0))), (q_2, .inl (k_2_, 64, .inl (fun _ => 0))), (q_3, .inl (k_3_, 2, .inl (fun _ => 0))), (q_4, .inl (k_4_, 2, .inl (fun _ => 0))), (q_5, .inl (k_5_, 8192, .inl (fun _ => 0))), (q_6, .inl (k_6_, 2, .inl (fun _ => 0))), (q_7, .inl (k_7_, 2, .inr (.inl (fun _ => 0)))), (q_8, .inl (k_8_, 2, .inl (fun _ => 0))), (q_9, .inl (k_9_, 256, .inl (fun _ => 0)))]) hx hb hts i_Model t_Model t_Model_ok n_Model hown hK hP hD hS 0 rfl rfl 0 (by decide) (hts _ k_625) (fun _ h9 => h9) rfl hin rfl (by decide +kernel) rfl rfl (Nat.le_of_ble_eq_true rfl) d_Model_init_100 rfl (fun H locs hP hD hS => ?_)
      refine lv_aload_n hx hb d_Model_init_103 rfl (lv_at hl 0 rfl) ?_
      refine xv (wr := []) (W2 := bgW (fun i => ([h0, q_1, q_2, q_3, q_4, q_5, q_6, q_7, q_8, q_9] : List Nat).getD i 0) (fun i => ([k_1_, k_2_, k_3_, k_4_, k_5_, k_6_, k_7_, k_8_, k_9_] : List ClassId).getD i 0) (nW x0) 0 0 0 0 (fun _ => 0) (fun _ => 0) 0) (xV (rest := []) ⟨hx, hb, hml, hown, hts⟩ (c_Model_begin (fun i => ([h0, q_1, q_2, q_3, q_4, q_5, q_6, q_7, q_8, q_9] : List Nat).getD i 0) (fun i => ([k_1_, k_2_, k_3_, k_4_, k_5_, k_6_, k_7_, k_8_, k_9_] : List ClassId).getD i 0) (nW x0) 0 0 0 0 (fun _ => 0) (fun _ => 0) (fun _ => 0) (fun _ => 0) (fun _ => 0) (fun _ => 0) (fun _ => 0) (fun _ => 0) 0 (fun _ => 0) 0) mw_Model_begin mv_Model_begin kbg_r ⟨rfl, rfl, Nat.le_of_ble_eq_true rfl, Nat.le_of_ble_eq_true rfl⟩ hK hP hD hS hA hF [0, 1, 2, 3, 4, 5, 6, 7, 8, 9] [0, 1, 2, 3, 4, 5, 6, 7, 8] rfl rfl rfl 0 5 rfl rfl rfl rfl hl.1 rfl (Nat.le_of_ble_eq_true rfl) d_Model_init_104 ⟨Nat.le_of_ble_eq_true rfl, Nat.le_of_ble_eq_true rfl⟩) hP hD hS hA [0, 1, 2, 3, 4, 5, 6, 7, 8, 9] [] [0, 1, 2, 3, 4, 5, 6, 7, 8, 9] rfl rfl rfl (by decide) (fun _ => rfl) rfl (fun u_12 H locs h_12 hP hD hS => ?_)
      exact rvI ((fun i => ([h0, q_1, q_2, q_3, q_4, q_5, q_6, q_7, q_8, q_9] : List Nat).getD i 0), (fun i => ([k_1_, k_2_, k_3_, k_4_, k_5_, k_6_, k_7_, k_8_, k_9_] : List ClassId).getD i 0), u_12) hx hb hr hlocks hP hK hD hS d_Model_init_107 ⟨rfl, h_12⟩ (by decide) (by decide)
    · refine lv_sipush (v := 4096) hx hb d_Model_init_93 rfl ?_
      refine lv_goto (tgt := 100) hx hb d_Model_init_96 (by decide) ?_
      refine lv_topi (fun y9 ey9 => ?_)
      obtain rfl : y9 = nI (nW x0) := ey9.trans (by rw [nW_big c_10 c_11]; rfl)
      refine y_putF (D := D) (ci := 5) (v := .int (nI (nW x0))) (ty := .int) (C := R_Model) (T := F_Model) (N := 16) (ws' := [(h0, .inr (5, [.int (nI (nW x0)), .ref q_1, .ref q_2, .ref q_3, .ref q_4, .ref q_5, .ref q_6, .ref q_7, .ref q_8, .long 0, .ref q_9, .int 0, .int 0, .int 0, .int 0, .int 0])), (q_1, .inl (k_1_, 16384, .inl (fun _ => 0))), (q_2, .inl (k_2_, 64, .inl (fun _ => 0))), (q_3, .inl (k_3_, 2, .inl (fun _ => 0))), (q_4, .inl (k_4_, 2, .inl (fun _ => 0))), (q_5, .inl (k_5_, 8192, .inl (fun _ => 0))), (q_6, .inl (k_6_, 2, .inl (fun _ => 0))), (q_7, .inl (k_7_, 2, .inr (.inl (fun _ => 0)))), (q_8, .inl (k_8_, 2, .inl (fun _ => 0))), (q_9, .inl (k_9_, 256, .inl (fun _ => 0)))]) hx hb hts i_Model t_Model t_Model_ok n_Model hown hK hP hD hS 0 rfl rfl 0 (by decide) (hts _ k_625) (fun _ h9 => h9) rfl hin rfl (by decide +kernel) rfl rfl (Nat.le_of_ble_eq_true rfl) d_Model_init_100 rfl (fun H locs hP hD hS => ?_)
      refine lv_aload_n hx hb d_Model_init_103 rfl (lv_at hl 0 rfl) ?_
      refine xv (wr := []) (W2 := bgW (fun i => ([h0, q_1, q_2, q_3, q_4, q_5, q_6, q_7, q_8, q_9] : List Nat).getD i 0) (fun i => ([k_1_, k_2_, k_3_, k_4_, k_5_, k_6_, k_7_, k_8_, k_9_] : List ClassId).getD i 0) (nW x0) 0 0 0 0 (fun _ => 0) (fun _ => 0) 0) (xV (rest := []) ⟨hx, hb, hml, hown, hts⟩ (c_Model_begin (fun i => ([h0, q_1, q_2, q_3, q_4, q_5, q_6, q_7, q_8, q_9] : List Nat).getD i 0) (fun i => ([k_1_, k_2_, k_3_, k_4_, k_5_, k_6_, k_7_, k_8_, k_9_] : List ClassId).getD i 0) (nW x0) 0 0 0 0 (fun _ => 0) (fun _ => 0) (fun _ => 0) (fun _ => 0) (fun _ => 0) (fun _ => 0) (fun _ => 0) (fun _ => 0) 0 (fun _ => 0) 0) mw_Model_begin mv_Model_begin kbg_r ⟨rfl, rfl, Nat.le_of_ble_eq_true rfl, Nat.le_of_ble_eq_true rfl⟩ hK hP hD hS hA hF [0, 1, 2, 3, 4, 5, 6, 7, 8, 9] [0, 1, 2, 3, 4, 5, 6, 7, 8] rfl rfl rfl 0 5 rfl rfl rfl rfl hl.1 rfl (Nat.le_of_ble_eq_true rfl) d_Model_init_104 ⟨Nat.le_of_ble_eq_true rfl, Nat.le_of_ble_eq_true rfl⟩) hP hD hS hA [0, 1, 2, 3, 4, 5, 6, 7, 8, 9] [] [0, 1, 2, 3, 4, 5, 6, 7, 8, 9] rfl rfl rfl (by decide) (fun _ => rfl) rfl (fun u_13 H locs h_13 hP hD hS => ?_)
      exact rvI ((fun i => ([h0, q_1, q_2, q_3, q_4, q_5, q_6, q_7, q_8, q_9] : List Nat).getD i 0), (fun i => ([k_1_, k_2_, k_3_, k_4_, k_5_, k_6_, k_7_, k_8_, k_9_] : List ClassId).getD i 0), u_13) hx hb hr hlocks hP hK hD hS d_Model_init_107 ⟨rfl, h_13⟩ (by decide) (by decide)
  · refine lv_bipush (v := 16) hx hb d_Model_init_81 rfl ?_
    refine lv_goto (tgt := 100) hx hb d_Model_init_83 (by decide) ?_
    refine lv_topi (fun y9 ey9 => ?_)
    obtain rfl : y9 = nI (nW x0) := ey9.trans (by rw [nW_small c_10]; rfl)
    refine y_putF (D := D) (ci := 5) (v := .int (nI (nW x0))) (ty := .int) (C := R_Model) (T := F_Model) (N := 16) (ws' := [(h0, .inr (5, [.int (nI (nW x0)), .ref q_1, .ref q_2, .ref q_3, .ref q_4, .ref q_5, .ref q_6, .ref q_7, .ref q_8, .long 0, .ref q_9, .int 0, .int 0, .int 0, .int 0, .int 0])), (q_1, .inl (k_1_, 16384, .inl (fun _ => 0))), (q_2, .inl (k_2_, 64, .inl (fun _ => 0))), (q_3, .inl (k_3_, 2, .inl (fun _ => 0))), (q_4, .inl (k_4_, 2, .inl (fun _ => 0))), (q_5, .inl (k_5_, 8192, .inl (fun _ => 0))), (q_6, .inl (k_6_, 2, .inl (fun _ => 0))), (q_7, .inl (k_7_, 2, .inr (.inl (fun _ => 0)))), (q_8, .inl (k_8_, 2, .inl (fun _ => 0))), (q_9, .inl (k_9_, 256, .inl (fun _ => 0)))]) hx hb hts i_Model t_Model t_Model_ok n_Model hown hK hP hD hS 0 rfl rfl 0 (by decide) (hts _ k_625) (fun _ h9 => h9) rfl hin rfl (by decide +kernel) rfl rfl (Nat.le_of_ble_eq_true rfl) d_Model_init_100 rfl (fun H locs hP hD hS => ?_)
    refine lv_aload_n hx hb d_Model_init_103 rfl (lv_at hl 0 rfl) ?_
    refine xv (wr := []) (W2 := bgW (fun i => ([h0, q_1, q_2, q_3, q_4, q_5, q_6, q_7, q_8, q_9] : List Nat).getD i 0) (fun i => ([k_1_, k_2_, k_3_, k_4_, k_5_, k_6_, k_7_, k_8_, k_9_] : List ClassId).getD i 0) (nW x0) 0 0 0 0 (fun _ => 0) (fun _ => 0) 0) (xV (rest := []) ⟨hx, hb, hml, hown, hts⟩ (c_Model_begin (fun i => ([h0, q_1, q_2, q_3, q_4, q_5, q_6, q_7, q_8, q_9] : List Nat).getD i 0) (fun i => ([k_1_, k_2_, k_3_, k_4_, k_5_, k_6_, k_7_, k_8_, k_9_] : List ClassId).getD i 0) (nW x0) 0 0 0 0 (fun _ => 0) (fun _ => 0) (fun _ => 0) (fun _ => 0) (fun _ => 0) (fun _ => 0) (fun _ => 0) (fun _ => 0) 0 (fun _ => 0) 0) mw_Model_begin mv_Model_begin kbg_r ⟨rfl, rfl, Nat.le_of_ble_eq_true rfl, Nat.le_of_ble_eq_true rfl⟩ hK hP hD hS hA hF [0, 1, 2, 3, 4, 5, 6, 7, 8, 9] [0, 1, 2, 3, 4, 5, 6, 7, 8] rfl rfl rfl 0 5 rfl rfl rfl rfl hl.1 rfl (Nat.le_of_ble_eq_true rfl) d_Model_init_104 ⟨Nat.le_of_ble_eq_true rfl, Nat.le_of_ble_eq_true rfl⟩) hP hD hS hA [0, 1, 2, 3, 4, 5, 6, 7, 8, 9] [] [0, 1, 2, 3, 4, 5, 6, 7, 8, 9] rfl rfl rfl (by decide) (fun _ => rfl) rfl (fun u_14 H locs h_14 hP hD hS => ?_)
    exact rvI ((fun i => ([h0, q_1, q_2, q_3, q_4, q_5, q_6, q_7, q_8, q_9] : List Nat).getD i 0), (fun i => ([k_1_, k_2_, k_3_, k_4_, k_5_, k_6_, k_7_, k_8_, k_9_] : List ClassId).getD i 0), u_14) hx hb hr hlocks hP hK hD hS d_Model_init_107 ⟨rfl, h_14⟩ (by decide) (by decide)
