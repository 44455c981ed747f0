section
-- ===== PART A: goes FIRST, ahead of the names: the tables' words, and 'selects' of the private methods out of them =====
/-- a private method of a class that the tables say can be made, by its rows of tables_1 -/
def lw_okq (q : MethodName × Nat) : Prop := (q.1.cls ≠ "java/lang/invoke/MethodHandle" ∧ q.1.cls ≠ "java/lang/invoke/VarHandle") ∧ Cond.instantiable q.1.cls q.2 ∈ tables_1 ∧ Cond.privateMethod q.1 ∈ tables_1 ∧ Cond.instanceMethod q.1 ∈ tables_1
theorem lw_p0 : lw_okq (⟨"TwinHart$Clint", "isBelow", "(II)Z"⟩, 1) := ⟨⟨by decide +kernel, by decide +kernel⟩, List.mem_of_getElem? (i := 35) (by decide +kernel), List.mem_of_getElem? (i := 222) (by decide +kernel), List.mem_of_getElem? (i := 223) (by decide +kernel)⟩
theorem lw_p1 : lw_okq (⟨"TwinHart$Csrs", "has", "(I)Z"⟩, 17) := ⟨⟨by decide +kernel, by decide +kernel⟩, List.mem_of_getElem? (i := 83) (by decide +kernel), List.mem_of_getElem? (i := 234) (by decide +kernel), List.mem_of_getElem? (i := 235) (by decide +kernel)⟩
theorem lw_p2 : lw_okq (⟨"TwinHart$Hart", "take", "(IIZ)V"⟩, 6) := ⟨⟨by decide +kernel, by decide +kernel⟩, List.mem_of_getElem? (i := 76) (by decide +kernel), List.mem_of_getElem? (i := 247) (by decide +kernel), List.mem_of_getElem? (i := 248) (by decide +kernel)⟩
theorem lw_p3 : lw_okq (⟨"TwinHart$Hart", "locate", "(IILTwinHart$Access;LTwinHart$Memory;)J"⟩, 6) := ⟨⟨by decide +kernel, by decide +kernel⟩, List.mem_of_getElem? (i := 76) (by decide +kernel), List.mem_of_getElem? (i := 261) (by decide +kernel), List.mem_of_getElem? (i := 262) (by decide +kernel)⟩
theorem lw_p4 : lw_okq (⟨"TwinHart$Csrs", "levelBefore", "()I"⟩, 17) := ⟨⟨by decide +kernel, by decide +kernel⟩, List.mem_of_getElem? (i := 83) (by decide +kernel), List.mem_of_getElem? (i := 274) (by decide +kernel), List.mem_of_getElem? (i := 275) (by decide +kernel)⟩
theorem lw_p5 : lw_okq (⟨"TwinHart$Hart", "fault", "(JI)I"⟩, 6) := ⟨⟨by decide +kernel, by decide +kernel⟩, List.mem_of_getElem? (i := 76) (by decide +kernel), List.mem_of_getElem? (i := 334) (by decide +kernel), List.mem_of_getElem? (i := 335) (by decide +kernel)⟩
theorem lw_p6 : lw_okq (⟨"TwinHart$Hart", "trap", "(II)I"⟩, 6) := ⟨⟨by decide +kernel, by decide +kernel⟩, List.mem_of_getElem? (i := 76) (by decide +kernel), List.mem_of_getElem? (i := 341) (by decide +kernel), List.mem_of_getElem? (i := 342) (by decide +kernel)⟩
theorem lw_p7 : lw_okq (⟨"TwinHart$Hart", "execute", "(ILTwinHart$Memory;)I"⟩, 6) := ⟨⟨by decide +kernel, by decide +kernel⟩, List.mem_of_getElem? (i := 76) (by decide +kernel), List.mem_of_getElem? (i := 346) (by decide +kernel), List.mem_of_getElem? (i := 347) (by decide +kernel)⟩
theorem lw_p8 : lw_okq (⟨"TwinHart$Hart", "load", "(ILTwinHart$Memory;)I"⟩, 6) := ⟨⟨by decide +kernel, by decide +kernel⟩, List.mem_of_getElem? (i := 76) (by decide +kernel), List.mem_of_getElem? (i := 350) (by decide +kernel), List.mem_of_getElem? (i := 351) (by decide +kernel)⟩
theorem lw_p9 : lw_okq (⟨"TwinHart$Hart", "illegal", "(I)I"⟩, 6) := ⟨⟨by decide +kernel, by decide +kernel⟩, List.mem_of_getElem? (i := 76) (by decide +kernel), List.mem_of_getElem? (i := 357) (by decide +kernel), List.mem_of_getElem? (i := 358) (by decide +kernel)⟩
theorem lw_p10 : lw_okq (⟨"TwinHart$Hart", "finish", "(II)I"⟩, 6) := ⟨⟨by decide +kernel, by decide +kernel⟩, List.mem_of_getElem? (i := 76) (by decide +kernel), List.mem_of_getElem? (i := 380) (by decide +kernel), List.mem_of_getElem? (i := 381) (by decide +kernel)⟩
theorem lw_p11 : lw_okq (⟨"TwinHart$Hart", "write", "(II)V"⟩, 6) := ⟨⟨by decide +kernel, by decide +kernel⟩, List.mem_of_getElem? (i := 76) (by decide +kernel), List.mem_of_getElem? (i := 387) (by decide +kernel), List.mem_of_getElem? (i := 388) (by decide +kernel)⟩
theorem lw_p12 : lw_okq (⟨"TwinHart$Hart", "goOn", "()I"⟩, 6) := ⟨⟨by decide +kernel, by decide +kernel⟩, List.mem_of_getElem? (i := 76) (by decide +kernel), List.mem_of_getElem? (i := 391) (by decide +kernel), List.mem_of_getElem? (i := 392) (by decide +kernel)⟩
theorem lw_p13 : lw_okq (⟨"TwinHart$Hart", "computeWithImmediate", "(I)I"⟩, 6) := ⟨⟨by decide +kernel, by decide +kernel⟩, List.mem_of_getElem? (i := 76) (by decide +kernel), List.mem_of_getElem? (i := 395) (by decide +kernel), List.mem_of_getElem? (i := 396) (by decide +kernel)⟩
theorem lw_p14 : lw_okq (⟨"TwinHart$Hart", "store", "(ILTwinHart$Memory;)I"⟩, 6) := ⟨⟨by decide +kernel, by decide +kernel⟩, List.mem_of_getElem? (i := 76) (by decide +kernel), List.mem_of_getElem? (i := 412) (by decide +kernel), List.mem_of_getElem? (i := 413) (by decide +kernel)⟩
theorem lw_p15 : lw_okq (⟨"TwinHart$Memory", "print", "(I)V"⟩, 5) := ⟨⟨by decide +kernel, by decide +kernel⟩, List.mem_of_getElem? (i := 23) (by decide +kernel), List.mem_of_getElem? (i := 426) (by decide +kernel), List.mem_of_getElem? (i := 427) (by decide +kernel)⟩
def lw_privs_1 : List (MethodName × Nat) := [(⟨"TwinHart$Clint", "isBelow", "(II)Z"⟩, 1), (⟨"TwinHart$Csrs", "has", "(I)Z"⟩, 17), (⟨"TwinHart$Hart", "take", "(IIZ)V"⟩, 6), (⟨"TwinHart$Hart", "locate", "(IILTwinHart$Access;LTwinHart$Memory;)J"⟩, 6), (⟨"TwinHart$Csrs", "levelBefore", "()I"⟩, 17), (⟨"TwinHart$Hart", "fault", "(JI)I"⟩, 6), (⟨"TwinHart$Hart", "trap", "(II)I"⟩, 6), (⟨"TwinHart$Hart", "execute", "(ILTwinHart$Memory;)I"⟩, 6), (⟨"TwinHart$Hart", "load", "(ILTwinHart$Memory;)I"⟩, 6), (⟨"TwinHart$Hart", "illegal", "(I)I"⟩, 6), (⟨"TwinHart$Hart", "finish", "(II)I"⟩, 6), (⟨"TwinHart$Hart", "write", "(II)V"⟩, 6), (⟨"TwinHart$Hart", "goOn", "()I"⟩, 6), (⟨"TwinHart$Hart", "computeWithImmediate", "(I)I"⟩, 6), (⟨"TwinHart$Hart", "store", "(ILTwinHart$Memory;)I"⟩, 6), (⟨"TwinHart$Memory", "print", "(I)V"⟩, 5)]
theorem lw_r1 : ∀ q ∈ lw_privs_1, lw_okq q := List.forall_mem_cons.mpr ⟨lw_p0, List.forall_mem_cons.mpr ⟨lw_p1, List.forall_mem_cons.mpr ⟨lw_p2, List.forall_mem_cons.mpr ⟨lw_p3, List.forall_mem_cons.mpr ⟨lw_p4, List.forall_mem_cons.mpr ⟨lw_p5, List.forall_mem_cons.mpr ⟨lw_p6, List.forall_mem_cons.mpr ⟨lw_p7, List.forall_mem_cons.mpr ⟨lw_p8, List.forall_mem_cons.mpr ⟨lw_p9, List.forall_mem_cons.mpr ⟨lw_p10, List.forall_mem_cons.mpr ⟨lw_p11, List.forall_mem_cons.mpr ⟨lw_p12, List.forall_mem_cons.mpr ⟨lw_p13, List.forall_mem_cons.mpr ⟨lw_p14, List.forall_mem_cons.mpr ⟨lw_p15, fun _ h => absurd h List.not_mem_nil⟩⟩⟩⟩⟩⟩⟩⟩⟩⟩⟩⟩⟩⟩⟩⟩
theorem lw_p16 : lw_okq (⟨"TwinHart$Hart", "changeAtOnce", "(ILTwinHart$Memory;)I"⟩, 6) := ⟨⟨by decide +kernel, by decide +kernel⟩, List.mem_of_getElem? (i := 76) (by decide +kernel), List.mem_of_getElem? (i := 435) (by decide +kernel), List.mem_of_getElem? (i := 436) (by decide +kernel)⟩
theorem lw_p17 : lw_okq (⟨"TwinHart$Hart", "compute", "(I)I"⟩, 6) := ⟨⟨by decide +kernel, by decide +kernel⟩, List.mem_of_getElem? (i := 76) (by decide +kernel), List.mem_of_getElem? (i := 460) (by decide +kernel), List.mem_of_getElem? (i := 461) (by decide +kernel)⟩
theorem lw_p18 : lw_okq (⟨"TwinHart$Hart", "branch", "(I)I"⟩, 6) := ⟨⟨by decide +kernel, by decide +kernel⟩, List.mem_of_getElem? (i := 76) (by decide +kernel), List.mem_of_getElem? (i := 471) (by decide +kernel), List.mem_of_getElem? (i := 472) (by decide +kernel)⟩
theorem lw_p19 : lw_okq (⟨"TwinHart$Hart", "jumpByRegister", "(I)I"⟩, 6) := ⟨⟨by decide +kernel, by decide +kernel⟩, List.mem_of_getElem? (i := 76) (by decide +kernel), List.mem_of_getElem? (i := 481) (by decide +kernel), List.mem_of_getElem? (i := 482) (by decide +kernel)⟩
theorem lw_p20 : lw_okq (⟨"TwinHart$Hart", "jump", "(II)I"⟩, 6) := ⟨⟨by decide +kernel, by decide +kernel⟩, List.mem_of_getElem? (i := 76) (by decide +kernel), List.mem_of_getElem? (i := 485) (by decide +kernel), List.mem_of_getElem? (i := 486) (by decide +kernel)⟩
theorem lw_p21 : lw_okq (⟨"TwinHart$Hart", "callSystem", "(I)I"⟩, 6) := ⟨⟨by decide +kernel, by decide +kernel⟩, List.mem_of_getElem? (i := 76) (by decide +kernel), List.mem_of_getElem? (i := 493) (by decide +kernel), List.mem_of_getElem? (i := 494) (by decide +kernel)⟩
theorem lw_p22 : lw_okq (⟨"TwinHart$Hart", "returnFromMachine", "()I"⟩, 6) := ⟨⟨by decide +kernel, by decide +kernel⟩, List.mem_of_getElem? (i := 76) (by decide +kernel), List.mem_of_getElem? (i := 497) (by decide +kernel), List.mem_of_getElem? (i := 498) (by decide +kernel)⟩
theorem lw_p23 : lw_okq (⟨"TwinHart$Hart", "returnFromSupervisor", "()I"⟩, 6) := ⟨⟨by decide +kernel, by decide +kernel⟩, List.mem_of_getElem? (i := 76) (by decide +kernel), List.mem_of_getElem? (i := 506) (by decide +kernel), List.mem_of_getElem? (i := 507) (by decide +kernel)⟩
theorem lw_p24 : lw_okq (⟨"TwinHart$Hart", "exchange", "(ILTwinHart$Memory;)I"⟩, 6) := ⟨⟨by decide +kernel, by decide +kernel⟩, List.mem_of_getElem? (i := 76) (by decide +kernel), List.mem_of_getElem? (i := 515) (by decide +kernel), List.mem_of_getElem? (i := 516) (by decide +kernel)⟩
theorem lw_p25 : lw_okq (⟨"TwinHart$Csrs", "writeSupervisor", "(II)V"⟩, 17) := ⟨⟨by decide +kernel, by decide +kernel⟩, List.mem_of_getElem? (i := 83) (by decide +kernel), List.mem_of_getElem? (i := 541) (by decide +kernel), List.mem_of_getElem? (i := 542) (by decide +kernel)⟩
theorem lw_p26 : lw_okq (⟨"TwinHart$Csrs", "writeMachine", "(II)V"⟩, 17) := ⟨⟨by decide +kernel, by decide +kernel⟩, List.mem_of_getElem? (i := 83) (by decide +kernel), List.mem_of_getElem? (i := 549) (by decide +kernel), List.mem_of_getElem? (i := 550) (by decide +kernel)⟩
theorem lw_p27 : lw_okq (⟨"TwinHartModel", "begin", "()V"⟩, 16) := ⟨⟨by decide +kernel, by decide +kernel⟩, List.mem_of_getElem? (i := 614) (by decide +kernel), List.mem_of_getElem? (i := 620) (by decide +kernel), List.mem_of_getElem? (i := 621) (by decide +kernel)⟩
theorem lw_p28 : lw_okq (⟨"TwinHartModel", "setBytes", "(III)V"⟩, 16) := ⟨⟨by decide +kernel, by decide +kernel⟩, List.mem_of_getElem? (i := 614) (by decide +kernel), List.mem_of_getElem? (i := 683) (by decide +kernel), List.mem_of_getElem? (i := 684) (by decide +kernel)⟩
theorem lw_p29 : lw_okq (⟨"TwinHartModel", "ramWord", "(I)I"⟩, 16) := ⟨⟨by decide +kernel, by decide +kernel⟩, List.mem_of_getElem? (i := 614) (by decide +kernel), List.mem_of_getElem? (i := 691) (by decide +kernel), List.mem_of_getElem? (i := 692) (by decide +kernel)⟩
theorem lw_p30 : lw_okq (⟨"TwinHartModel", "ramByte", "(I)I"⟩, 16) := ⟨⟨by decide +kernel, by decide +kernel⟩, List.mem_of_getElem? (i := 614) (by decide +kernel), List.mem_of_getElem? (i := 695) (by decide +kernel), List.mem_of_getElem? (i := 696) (by decide +kernel)⟩
theorem lw_p31 : lw_okq (⟨"TwinHartModel", "interrupt", "()I"⟩, 16) := ⟨⟨by decide +kernel, by decide +kernel⟩, List.mem_of_getElem? (i := 614) (by decide +kernel), List.mem_of_getElem? (i := 706) (by decide +kernel), List.mem_of_getElem? (i := 707) (by decide +kernel)⟩
def lw_privs_2 : List (MethodName × Nat) := [(⟨"TwinHart$Hart", "changeAtOnce", "(ILTwinHart$Memory;)I"⟩, 6), (⟨"TwinHart$Hart", "compute", "(I)I"⟩, 6), (⟨"TwinHart$Hart", "branch", "(I)I"⟩, 6), (⟨"TwinHart$Hart", "jumpByRegister", "(I)I"⟩, 6), (⟨"TwinHart$Hart", "jump", "(II)I"⟩, 6), (⟨"TwinHart$Hart", "callSystem", "(I)I"⟩, 6), (⟨"TwinHart$Hart", "returnFromMachine", "()I"⟩, 6), (⟨"TwinHart$Hart", "returnFromSupervisor", "()I"⟩, 6), (⟨"TwinHart$Hart", "exchange", "(ILTwinHart$Memory;)I"⟩, 6), (⟨"TwinHart$Csrs", "writeSupervisor", "(II)V"⟩, 17), (⟨"TwinHart$Csrs", "writeMachine", "(II)V"⟩, 17), (⟨"TwinHartModel", "begin", "()V"⟩, 16), (⟨"TwinHartModel", "setBytes", "(III)V"⟩, 16), (⟨"TwinHartModel", "ramWord", "(I)I"⟩, 16), (⟨"TwinHartModel", "ramByte", "(I)I"⟩, 16), (⟨"TwinHartModel", "interrupt", "()I"⟩, 16)]
theorem lw_r2 : ∀ q ∈ lw_privs_2, lw_okq q := List.forall_mem_cons.mpr ⟨lw_p16, List.forall_mem_cons.mpr ⟨lw_p17, List.forall_mem_cons.mpr ⟨lw_p18, List.forall_mem_cons.mpr ⟨lw_p19, List.forall_mem_cons.mpr ⟨lw_p20, List.forall_mem_cons.mpr ⟨lw_p21, List.forall_mem_cons.mpr ⟨lw_p22, List.forall_mem_cons.mpr ⟨lw_p23, List.forall_mem_cons.mpr ⟨lw_p24, List.forall_mem_cons.mpr ⟨lw_p25, List.forall_mem_cons.mpr ⟨lw_p26, List.forall_mem_cons.mpr ⟨lw_p27, List.forall_mem_cons.mpr ⟨lw_p28, List.forall_mem_cons.mpr ⟨lw_p29, List.forall_mem_cons.mpr ⟨lw_p30, List.forall_mem_cons.mpr ⟨lw_p31, fun _ h => absurd h List.not_mem_nil⟩⟩⟩⟩⟩⟩⟩⟩⟩⟩⟩⟩⟩⟩⟩⟩
theorem lw_p32 : lw_okq (⟨"TwinHartModel", "read", "(II)I"⟩, 16) := ⟨⟨by decide +kernel, by decide +kernel⟩, List.mem_of_getElem? (i := 614) (by decide +kernel), List.mem_of_getElem? (i := 710) (by decide +kernel), List.mem_of_getElem? (i := 711) (by decide +kernel)⟩
theorem lw_p33 : lw_okq (⟨"TwinHartModel", "raw", "(II)I"⟩, 16) := ⟨⟨by decide +kernel, by decide +kernel⟩, List.mem_of_getElem? (i := 614) (by decide +kernel), List.mem_of_getElem? (i := 715) (by decide +kernel), List.mem_of_getElem? (i := 716) (by decide +kernel)⟩
theorem lw_p34 : lw_okq (⟨"TwinHartModel", "has", "(I)Z"⟩, 16) := ⟨⟨by decide +kernel, by decide +kernel⟩, List.mem_of_getElem? (i := 614) (by decide +kernel), List.mem_of_getElem? (i := 727) (by decide +kernel), List.mem_of_getElem? (i := 728) (by decide +kernel)⟩
theorem lw_p35 : lw_okq (⟨"TwinHartModel", "take", "(IIZ)V"⟩, 16) := ⟨⟨by decide +kernel, by decide +kernel⟩, List.mem_of_getElem? (i := 614) (by decide +kernel), List.mem_of_getElem? (i := 731) (by decide +kernel), List.mem_of_getElem? (i := 732) (by decide +kernel)⟩
theorem lw_p36 : lw_okq (⟨"TwinHartModel", "keep", "(IIII)V"⟩, 16) := ⟨⟨by decide +kernel, by decide +kernel⟩, List.mem_of_getElem? (i := 614) (by decide +kernel), List.mem_of_getElem? (i := 735) (by decide +kernel), List.mem_of_getElem? (i := 736) (by decide +kernel)⟩
theorem lw_p37 : lw_okq (⟨"TwinHartModel", "fetch", "()I"⟩, 16) := ⟨⟨by decide +kernel, by decide +kernel⟩, List.mem_of_getElem? (i := 614) (by decide +kernel), List.mem_of_getElem? (i := 739) (by decide +kernel), List.mem_of_getElem? (i := 740) (by decide +kernel)⟩
theorem lw_p38 : lw_okq (⟨"TwinHartModel", "translate", "(II)J"⟩, 16) := ⟨⟨by decide +kernel, by decide +kernel⟩, List.mem_of_getElem? (i := 614) (by decide +kernel), List.mem_of_getElem? (i := 743) (by decide +kernel), List.mem_of_getElem? (i := 744) (by decide +kernel)⟩
theorem lw_p39 : lw_okq (⟨"TwinHartModel", "levelFor", "(I)I"⟩, 16) := ⟨⟨by decide +kernel, by decide +kernel⟩, List.mem_of_getElem? (i := 614) (by decide +kernel), List.mem_of_getElem? (i := 747) (by decide +kernel), List.mem_of_getElem? (i := 748) (by decide +kernel)⟩
theorem lw_p40 : lw_okq (⟨"TwinHartModel", "inRam", "(J)I"⟩, 16) := ⟨⟨by decide +kernel, by decide +kernel⟩, List.mem_of_getElem? (i := 614) (by decide +kernel), List.mem_of_getElem? (i := 756) (by decide +kernel), List.mem_of_getElem? (i := 757) (by decide +kernel)⟩
theorem lw_p41 : lw_okq (⟨"TwinHartModel", "trap", "(II)V"⟩, 16) := ⟨⟨by decide +kernel, by decide +kernel⟩, List.mem_of_getElem? (i := 614) (by decide +kernel), List.mem_of_getElem? (i := 764) (by decide +kernel), List.mem_of_getElem? (i := 765) (by decide +kernel)⟩
theorem lw_p42 : lw_okq (⟨"TwinHartModel", "lets", "(III)Z"⟩, 16) := ⟨⟨by decide +kernel, by decide +kernel⟩, List.mem_of_getElem? (i := 614) (by decide +kernel), List.mem_of_getElem? (i := 774) (by decide +kernel), List.mem_of_getElem? (i := 775) (by decide +kernel)⟩
theorem lw_p43 : lw_okq (⟨"TwinHartModel", "execute", "(I)V"⟩, 16) := ⟨⟨by decide +kernel, by decide +kernel⟩, List.mem_of_getElem? (i := 614) (by decide +kernel), List.mem_of_getElem? (i := 784) (by decide +kernel), List.mem_of_getElem? (i := 785) (by decide +kernel)⟩
theorem lw_p44 : lw_okq (⟨"TwinHartModel", "setReg", "(II)V"⟩, 16) := ⟨⟨by decide +kernel, by decide +kernel⟩, List.mem_of_getElem? (i := 614) (by decide +kernel), List.mem_of_getElem? (i := 791) (by decide +kernel), List.mem_of_getElem? (i := 792) (by decide +kernel)⟩
theorem lw_p45 : lw_okq (⟨"TwinHartModel", "jump", "(I)V"⟩, 16) := ⟨⟨by decide +kernel, by decide +kernel⟩, List.mem_of_getElem? (i := 614) (by decide +kernel), List.mem_of_getElem? (i := 795) (by decide +kernel), List.mem_of_getElem? (i := 796) (by decide +kernel)⟩
theorem lw_p46 : lw_okq (⟨"TwinHartModel", "go", "(I)V"⟩, 16) := ⟨⟨by decide +kernel, by decide +kernel⟩, List.mem_of_getElem? (i := 614) (by decide +kernel), List.mem_of_getElem? (i := 799) (by decide +kernel), List.mem_of_getElem? (i := 800) (by decide +kernel)⟩
theorem lw_p47 : lw_okq (⟨"TwinHartModel", "reg", "(I)I"⟩, 16) := ⟨⟨by decide +kernel, by decide +kernel⟩, List.mem_of_getElem? (i := 614) (by decide +kernel), List.mem_of_getElem? (i := 803) (by decide +kernel), List.mem_of_getElem? (i := 804) (by decide +kernel)⟩
def lw_privs_3 : List (MethodName × Nat) := [(⟨"TwinHartModel", "read", "(II)I"⟩, 16), (⟨"TwinHartModel", "raw", "(II)I"⟩, 16), (⟨"TwinHartModel", "has", "(I)Z"⟩, 16), (⟨"TwinHartModel", "take", "(IIZ)V"⟩, 16), (⟨"TwinHartModel", "keep", "(IIII)V"⟩, 16), (⟨"TwinHartModel", "fetch", "()I"⟩, 16), (⟨"TwinHartModel", "translate", "(II)J"⟩, 16), (⟨"TwinHartModel", "levelFor", "(I)I"⟩, 16), (⟨"TwinHartModel", "inRam", "(J)I"⟩, 16), (⟨"TwinHartModel", "trap", "(II)V"⟩, 16), (⟨"TwinHartModel", "lets", "(III)Z"⟩, 16), (⟨"TwinHartModel", "execute", "(I)V"⟩, 16), (⟨"TwinHartModel", "setReg", "(II)V"⟩, 16), (⟨"TwinHartModel", "jump", "(I)V"⟩, 16), (⟨"TwinHartModel", "go", "(I)V"⟩, 16), (⟨"TwinHartModel", "reg", "(I)I"⟩, 16)]
theorem lw_r3 : ∀ q ∈ lw_privs_3, lw_okq q := List.forall_mem_cons.mpr ⟨lw_p32, List.forall_mem_cons.mpr ⟨lw_p33, List.forall_mem_cons.mpr ⟨lw_p34, List.forall_mem_cons.mpr ⟨lw_p35, List.forall_mem_cons.mpr ⟨lw_p36, List.forall_mem_cons.mpr ⟨lw_p37, List.forall_mem_cons.mpr ⟨lw_p38, List.forall_mem_cons.mpr ⟨lw_p39, List.forall_mem_cons.mpr ⟨lw_p40, List.forall_mem_cons.mpr ⟨lw_p41, List.forall_mem_cons.mpr ⟨lw_p42, List.forall_mem_cons.mpr ⟨lw_p43, List.forall_mem_cons.mpr ⟨lw_p44, List.forall_mem_cons.mpr ⟨lw_p45, List.forall_mem_cons.mpr ⟨lw_p46, List.forall_mem_cons.mpr ⟨lw_p47, fun _ h => absurd h List.not_mem_nil⟩⟩⟩⟩⟩⟩⟩⟩⟩⟩⟩⟩⟩⟩⟩⟩
theorem lw_p48 : lw_okq (⟨"TwinHartModel", "branch", "(I)V"⟩, 16) := ⟨⟨by decide +kernel, by decide +kernel⟩, List.mem_of_getElem? (i := 614) (by decide +kernel), List.mem_of_getElem? (i := 807) (by decide +kernel), List.mem_of_getElem? (i := 808) (by decide +kernel)⟩
theorem lw_p49 : lw_okq (⟨"TwinHartModel", "loads", "(I)V"⟩, 16) := ⟨⟨by decide +kernel, by decide +kernel⟩, List.mem_of_getElem? (i := 614) (by decide +kernel), List.mem_of_getElem? (i := 814) (by decide +kernel), List.mem_of_getElem? (i := 815) (by decide +kernel)⟩
theorem lw_p50 : lw_okq (⟨"TwinHartModel", "load", "(II)I"⟩, 16) := ⟨⟨by decide +kernel, by decide +kernel⟩, List.mem_of_getElem? (i := 614) (by decide +kernel), List.mem_of_getElem? (i := 818) (by decide +kernel), List.mem_of_getElem? (i := 819) (by decide +kernel)⟩
theorem lw_p51 : lw_okq (⟨"TwinHartModel", "place", "(III)J"⟩, 16) := ⟨⟨by decide +kernel, by decide +kernel⟩, List.mem_of_getElem? (i := 614) (by decide +kernel), List.mem_of_getElem? (i := 822) (by decide +kernel), List.mem_of_getElem? (i := 823) (by decide +kernel)⟩
theorem lw_p52 : lw_okq (⟨"TwinHartModel", "clintWord", "(I)I"⟩, 16) := ⟨⟨by decide +kernel, by decide +kernel⟩, List.mem_of_getElem? (i := 614) (by decide +kernel), List.mem_of_getElem? (i := 835) (by decide +kernel), List.mem_of_getElem? (i := 836) (by decide +kernel)⟩
theorem lw_p53 : lw_okq (⟨"TwinHartModel", "stores", "(I)V"⟩, 16) := ⟨⟨by decide +kernel, by decide +kernel⟩, List.mem_of_getElem? (i := 614) (by decide +kernel), List.mem_of_getElem? (i := 839) (by decide +kernel), List.mem_of_getElem? (i := 840) (by decide +kernel)⟩
theorem lw_p54 : lw_okq (⟨"TwinHartModel", "store", "(III)V"⟩, 16) := ⟨⟨by decide +kernel, by decide +kernel⟩, List.mem_of_getElem? (i := 614) (by decide +kernel), List.mem_of_getElem? (i := 843) (by decide +kernel), List.mem_of_getElem? (i := 844) (by decide +kernel)⟩
theorem lw_p55 : lw_okq (⟨"TwinHartModel", "setClint", "(II)V"⟩, 16) := ⟨⟨by decide +kernel, by decide +kernel⟩, List.mem_of_getElem? (i := 614) (by decide +kernel), List.mem_of_getElem? (i := 847) (by decide +kernel), List.mem_of_getElem? (i := 848) (by decide +kernel)⟩
theorem lw_p56 : lw_okq (⟨"TwinHartModel", "reckon", "(IZ)V"⟩, 16) := ⟨⟨by decide +kernel, by decide +kernel⟩, List.mem_of_getElem? (i := 614) (by decide +kernel), List.mem_of_getElem? (i := 853) (by decide +kernel), List.mem_of_getElem? (i := 854) (by decide +kernel)⟩
theorem lw_p57 : lw_okq (⟨"TwinHartModel", "claims", "(I)V"⟩, 16) := ⟨⟨by decide +kernel, by decide +kernel⟩, List.mem_of_getElem? (i := 614) (by decide +kernel), List.mem_of_getElem? (i := 869) (by decide +kernel), List.mem_of_getElem? (i := 870) (by decide +kernel)⟩
theorem lw_p58 : lw_okq (⟨"TwinHartModel", "claimed", "(II)I"⟩, 16) := ⟨⟨by decide +kernel, by decide +kernel⟩, List.mem_of_getElem? (i := 614) (by decide +kernel), List.mem_of_getElem? (i := 873) (by decide +kernel), List.mem_of_getElem? (i := 874) (by decide +kernel)⟩
theorem lw_p59 : lw_okq (⟨"TwinHartModel", "machine", "(I)V"⟩, 16) := ⟨⟨by decide +kernel, by decide +kernel⟩, List.mem_of_getElem? (i := 614) (by decide +kernel), List.mem_of_getElem? (i := 880) (by decide +kernel), List.mem_of_getElem? (i := 881) (by decide +kernel)⟩
theorem lw_p60 : lw_okq (⟨"TwinHartModel", "csrs", "(I)V"⟩, 16) := ⟨⟨by decide +kernel, by decide +kernel⟩, List.mem_of_getElem? (i := 614) (by decide +kernel), List.mem_of_getElem? (i := 890) (by decide +kernel), List.mem_of_getElem? (i := 891) (by decide +kernel)⟩
theorem lw_p61 : lw_okq (⟨"TwinHartModel", "write", "(III)V"⟩, 16) := ⟨⟨by decide +kernel, by decide +kernel⟩, List.mem_of_getElem? (i := 614) (by decide +kernel), List.mem_of_getElem? (i := 897) (by decide +kernel), List.mem_of_getElem? (i := 898) (by decide +kernel)⟩
def lw_privs_4 : List (MethodName × Nat) := [(⟨"TwinHartModel", "branch", "(I)V"⟩, 16), (⟨"TwinHartModel", "loads", "(I)V"⟩, 16), (⟨"TwinHartModel", "load", "(II)I"⟩, 16), (⟨"TwinHartModel", "place", "(III)J"⟩, 16), (⟨"TwinHartModel", "clintWord", "(I)I"⟩, 16), (⟨"TwinHartModel", "stores", "(I)V"⟩, 16), (⟨"TwinHartModel", "store", "(III)V"⟩, 16), (⟨"TwinHartModel", "setClint", "(II)V"⟩, 16), (⟨"TwinHartModel", "reckon", "(IZ)V"⟩, 16), (⟨"TwinHartModel", "claims", "(I)V"⟩, 16), (⟨"TwinHartModel", "claimed", "(II)I"⟩, 16), (⟨"TwinHartModel", "machine", "(I)V"⟩, 16), (⟨"TwinHartModel", "csrs", "(I)V"⟩, 16), (⟨"TwinHartModel", "write", "(III)V"⟩, 16)]
theorem lw_r4 : ∀ q ∈ lw_privs_4, lw_okq q := List.forall_mem_cons.mpr ⟨lw_p48, List.forall_mem_cons.mpr ⟨lw_p49, List.forall_mem_cons.mpr ⟨lw_p50, List.forall_mem_cons.mpr ⟨lw_p51, List.forall_mem_cons.mpr ⟨lw_p52, List.forall_mem_cons.mpr ⟨lw_p53, List.forall_mem_cons.mpr ⟨lw_p54, List.forall_mem_cons.mpr ⟨lw_p55, List.forall_mem_cons.mpr ⟨lw_p56, List.forall_mem_cons.mpr ⟨lw_p57, List.forall_mem_cons.mpr ⟨lw_p58, List.forall_mem_cons.mpr ⟨lw_p59, List.forall_mem_cons.mpr ⟨lw_p60, List.forall_mem_cons.mpr ⟨lw_p61, fun _ h => absurd h List.not_mem_nil⟩⟩⟩⟩⟩⟩⟩⟩⟩⟩⟩⟩⟩⟩
def lw_privs : List (MethodName × Nat) := lw_privs_1 ++ (lw_privs_2 ++ (lw_privs_3 ++ (lw_privs_4)))
def lw_tbl : List Cond := k2_sels lw_privs ++ tables_1
theorem lw_privs_ok : ∀ q ∈ lw_privs, lw_okq q := by
  show ∀ q ∈ lw_privs_1 ++ (lw_privs_2 ++ (lw_privs_3 ++ (lw_privs_4))), lw_okq q
  exact List.forall_mem_append.mpr ⟨lw_r1, List.forall_mem_append.mpr ⟨lw_r2, List.forall_mem_append.mpr ⟨lw_r3, lw_r4⟩⟩⟩
end
section
-- names of classes, their fields, methods
def R_TwinHart : String := "TwinHart"
def R_Memory : String := "TwinHart$Memory"
def R_Clint : String := "TwinHart$Clint"
def R_Csrs : String := "TwinHart$Csrs"
def R_Hart : String := "TwinHart$Hart"
def R_Access : String := "TwinHart$Access"
def R_Alu : String := "TwinHart$Alu"
def R_Fault : String := "TwinHart$Fault"
def R_Field : String := "TwinHart$Field"
def R_Pages : String := "TwinHart$Pages"
def R_Model : String := "TwinHartModel"
def R_law : String := "TwinHartLaw"
def F_Clint : u_T := fun k => match k with
  | _ => ("TwinHart$Clint", "words", "[I", true)
def t_Clint : Nat → FieldType := fun k => match k with
  | _ => .array .int
theorem n_Clint : ∀ a, a < 1 → ∀ b, b < 1 → a ≠ b → (F_Clint a).2.1 ≠ (F_Clint b).2.1 := by decide +kernel
theorem t_Clint_ok : ∀ k, k < 1 → parseFieldDescriptor (F_Clint k).2.2.1 = some (t_Clint k) := by decide +kernel
def F_Csrs : u_T := fun k => match k with
  | 0 => ("TwinHart$Csrs", "hart", "I", true)
  | 1 => ("TwinHart$Csrs", "mstatus", "I", false)
  | 2 => ("TwinHart$Csrs", "medeleg", "I", false)
  | 3 => ("TwinHart$Csrs", "mideleg", "I", false)
  | 4 => ("TwinHart$Csrs", "mie", "I", false)
  | 5 => ("TwinHart$Csrs", "mtvec", "I", false)
  | 6 => ("TwinHart$Csrs", "mepc", "I", false)
  | 7 => ("TwinHart$Csrs", "mscratch", "I", false)
  | 8 => ("TwinHart$Csrs", "mcause", "I", false)
  | 9 => ("TwinHart$Csrs", "mtval", "I", false)
  | 10 => ("TwinHart$Csrs", "mip", "I", false)
  | 11 => ("TwinHart$Csrs", "stvec", "I", false)
  | 12 => ("TwinHart$Csrs", "sepc", "I", false)
  | 13 => ("TwinHart$Csrs", "sscratch", "I", false)
  | 14 => ("TwinHart$Csrs", "scause", "I", false)
  | 15 => ("TwinHart$Csrs", "stval", "I", false)
  | _ => ("TwinHart$Csrs", "satp", "I", false)
def t_Csrs : Nat → FieldType := fun k => match k with
  | 0 => .int
  | 1 => .int
  | 2 => .int
  | 3 => .int
  | 4 => .int
  | 5 => .int
  | 6 => .int
  | 7 => .int
  | 8 => .int
  | 9 => .int
  | 10 => .int
  | 11 => .int
  | 12 => .int
  | 13 => .int
  | 14 => .int
  | 15 => .int
  | _ => .int
theorem n_Csrs : ∀ a, a < 17 → ∀ b, b < 17 → a ≠ b → (F_Csrs a).2.1 ≠ (F_Csrs b).2.1 := by decide +kernel
theorem t_Csrs_ok : ∀ k, k < 17 → parseFieldDescriptor (F_Csrs k).2.2.1 = some (t_Csrs k) := by decide +kernel
def F_Hart : u_T := fun k => match k with
  | 0 => ("TwinHart$Hart", "id", "I", true)
  | 1 => ("TwinHart$Hart", "x", "[I", true)
  | 2 => ("TwinHart$Hart", "csrs", "LTwinHart$Csrs;", true)
  | 3 => ("TwinHart$Hart", "pc", "I", false)
  | 4 => ("TwinHart$Hart", "level", "I", false)
  | _ => ("TwinHart$Hart", "trapValue", "I", false)
def t_Hart : Nat → FieldType := fun k => match k with
  | 0 => .int
  | 1 => .array .int
  | 2 => .object "TwinHart$Csrs"
  | 3 => .int
  | 4 => .int
  | _ => .int
theorem n_Hart : ∀ a, a < 6 → ∀ b, b < 6 → a ≠ b → (F_Hart a).2.1 ≠ (F_Hart b).2.1 := by decide +kernel
theorem t_Hart_ok : ∀ k, k < 6 → parseFieldDescriptor (F_Hart k).2.2.1 = some (t_Hart k) := by decide +kernel
def F_Memory : u_T := fun k => match k with
  | 0 => ("TwinHart$Memory", "ram", "[I", true)
  | 1 => ("TwinHart$Memory", "clint", "LTwinHart$Clint;", true)
  | 2 => ("TwinHart$Memory", "console", "[B", true)
  | 3 => ("TwinHart$Memory", "printed", "I", false)
  | _ => ("TwinHart$Memory", "claims", "[J", true)
def t_Memory : Nat → FieldType := fun k => match k with
  | 0 => .array .int
  | 1 => .object "TwinHart$Clint"
  | 2 => .array .byte
  | 3 => .int
  | _ => .array .long
theorem n_Memory : ∀ a, a < 5 → ∀ b, b < 5 → a ≠ b → (F_Memory a).2.1 ≠ (F_Memory b).2.1 := by decide +kernel
theorem t_Memory_ok : ∀ k, k < 5 → parseFieldDescriptor (F_Memory k).2.2.1 = some (t_Memory k) := by decide +kernel
def F_TwinHart : u_T := fun k => match k with
  | 0 => ("TwinHart", "memory", "LTwinHart$Memory;", true)
  | _ => ("TwinHart", "harts", "[LTwinHart$Hart;", true)
def t_TwinHart : Nat → FieldType := fun k => match k with
  | 0 => .object "TwinHart$Memory"
  | _ => .array (.object "TwinHart$Hart")
theorem n_TwinHart : ∀ a, a < 2 → ∀ b, b < 2 → a ≠ b → (F_TwinHart a).2.1 ≠ (F_TwinHart b).2.1 := by decide +kernel
theorem t_TwinHart_ok : ∀ k, k < 2 → parseFieldDescriptor (F_TwinHart k).2.2.1 = some (t_TwinHart k) := by decide +kernel
def F_Model : u_T := fun k => match k with
  | 0 => ("TwinHartModel", "words", "I", true)
  | 1 => ("TwinHartModel", "ram", "[B", true)
  | 2 => ("TwinHartModel", "x", "[I", true)
  | 3 => ("TwinHartModel", "pcs", "[I", true)
  | 4 => ("TwinHartModel", "levels", "[I", true)
  | 5 => ("TwinHartModel", "csrs", "[I", true)
  | 6 => ("TwinHartModel", "claims", "[I", true)
  | 7 => ("TwinHartModel", "compare", "[J", true)
  | 8 => ("TwinHartModel", "soft", "[I", true)
  | 9 => ("TwinHartModel", "time", "J", false)
  | 10 => ("TwinHartModel", "put", "[I", true)
  | 11 => ("TwinHartModel", "puts", "I", false)
  | 12 => ("TwinHartModel", "h", "I", false)
  | 13 => ("TwinHartModel", "cause", "I", false)
  | 14 => ("TwinHartModel", "tval", "I", false)
  | _ => ("TwinHartModel", "next", "I", false)
def t_Model : Nat → FieldType := fun k => match k with
  | 0 => .int
  | 1 => .array .byte
  | 2 => .array .int
  | 3 => .array .int
  | 4 => .array .int
  | 5 => .array .int
  | 6 => .array .int
  | 7 => .array .long
  | 8 => .array .int
  | 9 => .long
  | 10 => .array .int
  | 11 => .int
  | 12 => .int
  | 13 => .int
  | 14 => .int
  | _ => .int
theorem n_Model : ∀ a, a < 16 → ∀ b, b < 16 → a ≠ b → (F_Model a).2.1 ≠ (F_Model b).2.1 := by decide +kernel
theorem t_Model_ok : ∀ k, k < 16 → parseFieldDescriptor (F_Model k).2.2.1 = some (t_Model k) := by decide +kernel
abbrev classes : List vw_C := [(R_TwinHart, F_TwinHart, 2), (R_Memory, F_Memory, 5), (R_Clint, F_Clint, 1), (R_Csrs, F_Csrs, 17), (R_Hart, F_Hart, 6), (R_Model, F_Model, 16)]
abbrev b_TwinHart_init : ByteArray := prog_1_method_1_code
def y_TwinHart_init : MethodName := ⟨R_TwinHart, "<init>", "(I)V"⟩
abbrev b_TwinHart_reset : ByteArray := prog_1_method_2_code
def y_TwinHart_reset : MethodName := ⟨R_TwinHart, "reset", "()V"⟩
abbrev b_TwinHart_poke : ByteArray := prog_1_method_3_code
def y_TwinHart_poke : MethodName := ⟨R_TwinHart, "poke", "(II)Z"⟩
abbrev b_TwinHart_peek : ByteArray := prog_1_method_4_code
def y_TwinHart_peek : MethodName := ⟨R_TwinHart, "peek", "(I)I"⟩
abbrev b_TwinHart_step : ByteArray := prog_1_method_5_code
def y_TwinHart_step : MethodName := ⟨R_TwinHart, "step", "(I)I"⟩
abbrev b_TwinHart_tick : ByteArray := prog_1_method_6_code
def y_TwinHart_tick : MethodName := ⟨R_TwinHart, "tick", "()V"⟩
abbrev b_TwinHart_register : ByteArray := prog_1_method_7_code
def y_TwinHart_register : MethodName := ⟨R_TwinHart, "register", "(II)I"⟩
abbrev b_TwinHart_set : ByteArray := prog_1_method_8_code
def y_TwinHart_set : MethodName := ⟨R_TwinHart, "set", "(III)Z"⟩
abbrev b_TwinHart_pc : ByteArray := prog_1_method_9_code
def y_TwinHart_pc : MethodName := ⟨R_TwinHart, "pc", "(I)I"⟩
abbrev b_TwinHart_csr : ByteArray := prog_1_method_10_code
def y_TwinHart_csr : MethodName := ⟨R_TwinHart, "csr", "(II)I"⟩
abbrev b_TwinHart_put : ByteArray := prog_1_method_11_code
def y_TwinHart_put : MethodName := ⟨R_TwinHart, "put", "(III)Z"⟩
abbrev b_TwinHart_level : ByteArray := prog_1_method_12_code
def y_TwinHart_level : MethodName := ⟨R_TwinHart, "level", "(I)I"⟩
abbrev b_TwinHart_size : ByteArray := prog_1_method_13_code
def y_TwinHart_size : MethodName := ⟨R_TwinHart, "size", "()I"⟩
abbrev b_TwinHart_out : ByteArray := prog_1_method_14_code
def y_TwinHart_out : MethodName := ⟨R_TwinHart, "out", "(I)I"⟩
abbrev b_TwinHart_isHart : ByteArray := prog_1_method_15_code
def y_TwinHart_isHart : MethodName := ⟨R_TwinHart, "isHart", "(I)Z"⟩
abbrev b_TwinHart_isRegister : ByteArray := prog_1_method_16_code
def y_TwinHart_isRegister : MethodName := ⟨R_TwinHart, "isRegister", "(I)Z"⟩
abbrev b_Model_init : ByteArray := prog_12_method_1_code
def y_Model_init : MethodName := ⟨R_Model, "<init>", "(I)V"⟩
abbrev b_Model_begin : ByteArray := prog_12_method_2_code
def y_Model_begin : MethodName := ⟨R_Model, "begin", "()V"⟩
abbrev b_Model_reset : ByteArray := prog_12_method_3_code
def y_Model_reset : MethodName := ⟨R_Model, "reset", "()V"⟩
abbrev b_Model_ramByte : ByteArray := prog_12_method_4_code
def y_Model_ramByte : MethodName := ⟨R_Model, "ramByte", "(I)I"⟩
abbrev b_Model_ramWord : ByteArray := prog_12_method_5_code
def y_Model_ramWord : MethodName := ⟨R_Model, "ramWord", "(I)I"⟩
abbrev b_Model_setBytes : ByteArray := prog_12_method_6_code
def y_Model_setBytes : MethodName := ⟨R_Model, "setBytes", "(III)V"⟩
abbrev b_Model_inRam : ByteArray := prog_12_method_7_code
def y_Model_inRam : MethodName := ⟨R_Model, "inRam", "(J)I"⟩
abbrev b_Model_poke : ByteArray := prog_12_method_8_code
def y_Model_poke : MethodName := ⟨R_Model, "poke", "(II)Z"⟩
abbrev b_Model_peek : ByteArray := prog_12_method_9_code
def y_Model_peek : MethodName := ⟨R_Model, "peek", "(I)I"⟩
abbrev b_Model_isCsr : ByteArray := prog_12_method_10_code
def y_Model_isCsr : MethodName := ⟨R_Model, "isCsr", "(I)Z"⟩
abbrev b_Model_sstatusBits : ByteArray := prog_12_method_11_code
def y_Model_sstatusBits : MethodName := ⟨R_Model, "sstatusBits", "()I"⟩
abbrev b_Model_raw : ByteArray := prog_12_method_12_code
def y_Model_raw : MethodName := ⟨R_Model, "raw", "(II)I"⟩
abbrev b_Model_read : ByteArray := prog_12_method_13_code
def y_Model_read : MethodName := ⟨R_Model, "read", "(II)I"⟩
abbrev b_Model_keep : ByteArray := prog_12_method_14_code
def y_Model_keep : MethodName := ⟨R_Model, "keep", "(IIII)V"⟩
abbrev b_Model_write : ByteArray := prog_12_method_15_code
def y_Model_write : MethodName := ⟨R_Model, "write", "(III)V"⟩
abbrev b_Model_has : ByteArray := prog_12_method_16_code
def y_Model_has : MethodName := ⟨R_Model, "has", "(I)Z"⟩
abbrev b_Model_trap : ByteArray := prog_12_method_17_code
def y_Model_trap : MethodName := ⟨R_Model, "trap", "(II)V"⟩
abbrev b_Model_take : ByteArray := prog_12_method_18_code
def y_Model_take : MethodName := ⟨R_Model, "take", "(IIZ)V"⟩
abbrev b_Model_firstOf : ByteArray := prog_12_method_19_code
def y_Model_firstOf : MethodName := ⟨R_Model, "firstOf", "(I)I"⟩
abbrev b_Model_interrupt : ByteArray := prog_12_method_20_code
def y_Model_interrupt : MethodName := ⟨R_Model, "interrupt", "()I"⟩
abbrev b_Model_accessFault : ByteArray := prog_12_method_21_code
def y_Model_accessFault : MethodName := ⟨R_Model, "accessFault", "(I)I"⟩
abbrev b_Model_pageFault : ByteArray := prog_12_method_22_code
def y_Model_pageFault : MethodName := ⟨R_Model, "pageFault", "(I)I"⟩
abbrev b_Model_levelFor : ByteArray := prog_12_method_23_code
def y_Model_levelFor : MethodName := ⟨R_Model, "levelFor", "(I)I"⟩
abbrev b_Model_isLeaf : ByteArray := prog_12_method_24_code
def y_Model_isLeaf : MethodName := ⟨R_Model, "isLeaf", "(I)Z"⟩
abbrev b_Model_isBad : ByteArray := prog_12_method_25_code
def y_Model_isBad : MethodName := ⟨R_Model, "isBad", "(I)Z"⟩
abbrev b_Model_lets : ByteArray := prog_12_method_26_code
def y_Model_lets : MethodName := ⟨R_Model, "lets", "(III)Z"⟩
abbrev b_Model_translate : ByteArray := prog_12_method_27_code
def y_Model_translate : MethodName := ⟨R_Model, "translate", "(II)J"⟩
abbrev b_Model_clint : ByteArray := prog_12_method_28_code
def y_Model_clint : MethodName := ⟨R_Model, "clint", "(J)I"⟩
abbrev b_Model_clintWord : ByteArray := prog_12_method_29_code
def y_Model_clintWord : MethodName := ⟨R_Model, "clintWord", "(I)I"⟩
abbrev b_Model_setClint : ByteArray := prog_12_method_30_code
def y_Model_setClint : MethodName := ⟨R_Model, "setClint", "(II)V"⟩
abbrev b_Model_place : ByteArray := prog_12_method_31_code
def y_Model_place : MethodName := ⟨R_Model, "place", "(III)J"⟩
abbrev b_Model_load : ByteArray := prog_12_method_32_code
def y_Model_load : MethodName := ⟨R_Model, "load", "(II)I"⟩
abbrev b_Model_store : ByteArray := prog_12_method_33_code
def y_Model_store : MethodName := ⟨R_Model, "store", "(III)V"⟩
abbrev b_Model_claimed : ByteArray := prog_12_method_34_code
def y_Model_claimed : MethodName := ⟨R_Model, "claimed", "(II)I"⟩
abbrev b_Model_reg : ByteArray := prog_12_method_35_code
def y_Model_reg : MethodName := ⟨R_Model, "reg", "(I)I"⟩
abbrev b_Model_setReg : ByteArray := prog_12_method_36_code
def y_Model_setReg : MethodName := ⟨R_Model, "setReg", "(II)V"⟩
abbrev b_Model_field : ByteArray := prog_12_method_37_code
def y_Model_field : MethodName := ⟨R_Model, "field", "(III)I"⟩
abbrev b_Model_go : ByteArray := prog_12_method_38_code
def y_Model_go : MethodName := ⟨R_Model, "go", "(I)V"⟩
abbrev b_Model_below : ByteArray := prog_12_method_39_code
def y_Model_below : MethodName := ⟨R_Model, "below", "(II)Z"⟩
abbrev b_Model_jump : ByteArray := prog_12_method_40_code
def y_Model_jump : MethodName := ⟨R_Model, "jump", "(I)V"⟩
abbrev b_Model_branch : ByteArray := prog_12_method_41_code
def y_Model_branch : MethodName := ⟨R_Model, "branch", "(I)V"⟩
abbrev b_Model_loads : ByteArray := prog_12_method_42_code
def y_Model_loads : MethodName := ⟨R_Model, "loads", "(I)V"⟩
abbrev b_Model_stores : ByteArray := prog_12_method_43_code
def y_Model_stores : MethodName := ⟨R_Model, "stores", "(I)V"⟩
abbrev b_Model_shifted : ByteArray := prog_12_method_44_code
def y_Model_shifted : MethodName := ⟨R_Model, "shifted", "(IIZ)I"⟩
abbrev b_Model_plain : ByteArray := prog_12_method_45_code
def y_Model_plain : MethodName := ⟨R_Model, "plain", "(III)I"⟩
abbrev b_Model_product : ByteArray := prog_12_method_46_code
def y_Model_product : MethodName := ⟨R_Model, "product", "(III)I"⟩
abbrev b_Model_quotient : ByteArray := prog_12_method_47_code
def y_Model_quotient : MethodName := ⟨R_Model, "quotient", "(III)I"⟩
abbrev b_Model_reckon : ByteArray := prog_12_method_48_code
def y_Model_reckon : MethodName := ⟨R_Model, "reckon", "(IZ)V"⟩
abbrev b_Model_changed : ByteArray := prog_12_method_49_code
def y_Model_changed : MethodName := ⟨R_Model, "changed", "(III)I"⟩
abbrev b_Model_claims : ByteArray := prog_12_method_50_code
def y_Model_claims : MethodName := ⟨R_Model, "claims", "(I)V"⟩
abbrev b_Model_machine : ByteArray := prog_12_method_51_code
def y_Model_machine : MethodName := ⟨R_Model, "machine", "(I)V"⟩
abbrev b_Model_csrs : ByteArray := prog_12_method_52_code
def y_Model_csrs : MethodName := ⟨R_Model, "csrs", "(I)V"⟩
abbrev b_Model_execute : ByteArray := prog_12_method_53_code
def y_Model_execute : MethodName := ⟨R_Model, "execute", "(I)V"⟩
abbrev b_Model_fetch : ByteArray := prog_12_method_54_code
def y_Model_fetch : MethodName := ⟨R_Model, "fetch", "()I"⟩
abbrev b_Model_isHart : ByteArray := prog_12_method_55_code
def y_Model_isHart : MethodName := ⟨R_Model, "isHart", "(I)Z"⟩
abbrev b_Model_step : ByteArray := prog_12_method_56_code
def y_Model_step : MethodName := ⟨R_Model, "step", "(I)I"⟩
abbrev b_Model_tick : ByteArray := prog_12_method_57_code
def y_Model_tick : MethodName := ⟨R_Model, "tick", "()V"⟩
abbrev b_Model_register : ByteArray := prog_12_method_58_code
def y_Model_register : MethodName := ⟨R_Model, "register", "(II)I"⟩
abbrev b_Model_set : ByteArray := prog_12_method_59_code
def y_Model_set : MethodName := ⟨R_Model, "set", "(III)Z"⟩
abbrev b_Model_pc : ByteArray := prog_12_method_60_code
def y_Model_pc : MethodName := ⟨R_Model, "pc", "(I)I"⟩
abbrev b_Model_csr : ByteArray := prog_12_method_61_code
def y_Model_csr : MethodName := ⟨R_Model, "csr", "(II)I"⟩
abbrev b_Model_put : ByteArray := prog_12_method_62_code
def y_Model_put : MethodName := ⟨R_Model, "put", "(III)Z"⟩
abbrev b_Model_level : ByteArray := prog_12_method_63_code
def y_Model_level : MethodName := ⟨R_Model, "level", "(I)I"⟩
abbrev b_Model_size : ByteArray := prog_12_method_64_code
def y_Model_size : MethodName := ⟨R_Model, "size", "()I"⟩
abbrev b_Model_out : ByteArray := prog_12_method_65_code
def y_Model_out : MethodName := ⟨R_Model, "out", "(I)I"⟩
abbrev b_Alu_below : ByteArray := prog_3_method_2_code
def y_Alu_below : MethodName := ⟨R_Alu, "below", "(II)Z"⟩
abbrev b_Alu_plain : ByteArray := prog_3_method_3_code
def y_Alu_plain : MethodName := ⟨R_Alu, "plain", "(III)I"⟩
abbrev b_Alu_multiplied : ByteArray := prog_3_method_4_code
def y_Alu_multiplied : MethodName := ⟨R_Alu, "multiplied", "(III)I"⟩
abbrev b_Alu_divided : ByteArray := prog_3_method_5_code
def y_Alu_divided : MethodName := ⟨R_Alu, "divided", "(III)I"⟩
abbrev b_Alu_branches : ByteArray := prog_3_method_6_code
def y_Alu_branches : MethodName := ⟨R_Alu, "branches", "(III)Z"⟩
abbrev b_Alu_changed : ByteArray := prog_3_method_7_code
def y_Alu_changed : MethodName := ⟨R_Alu, "changed", "(III)I"⟩
abbrev b_Clint_init : ByteArray := prog_4_method_1_code
def y_Clint_init : MethodName := ⟨R_Clint, "<init>", "()V"⟩
abbrev b_Clint_restart : ByteArray := prog_4_method_2_code
def y_Clint_restart : MethodName := ⟨R_Clint, "restart", "()V"⟩
abbrev b_Clint_advance : ByteArray := prog_4_method_3_code
def y_Clint_advance : MethodName := ⟨R_Clint, "advance", "()V"⟩
abbrev b_Clint_lines : ByteArray := prog_4_method_4_code
def y_Clint_lines : MethodName := ⟨R_Clint, "lines", "(I)I"⟩
abbrev b_Clint_isBelow : ByteArray := prog_4_method_5_code
def y_Clint_isBelow : MethodName := ⟨R_Clint, "isBelow", "(II)Z"⟩
abbrev b_Clint_slotAt : ByteArray := prog_4_method_6_code
def y_Clint_slotAt : MethodName := ⟨R_Clint, "slotAt", "(J)I"⟩
abbrev b_Clint_store : ByteArray := prog_4_method_7_code
def y_Clint_store : MethodName := ⟨R_Clint, "store", "(JI)V"⟩
abbrev b_Csrs_init : ByteArray := prog_5_method_1_code
def y_Csrs_init : MethodName := ⟨R_Csrs, "<init>", "(I)V"⟩
abbrev b_Csrs_restart : ByteArray := prog_5_method_2_code
def y_Csrs_restart : MethodName := ⟨R_Csrs, "restart", "()V"⟩
abbrev b_Csrs_isTold : ByteArray := prog_5_method_3_code
def y_Csrs_isTold : MethodName := ⟨R_Csrs, "isTold", "(I)Z"⟩
abbrev b_Csrs_isReadOnly : ByteArray := prog_5_method_4_code
def y_Csrs_isReadOnly : MethodName := ⟨R_Csrs, "isReadOnly", "(I)Z"⟩
abbrev b_Csrs_isAllowed : ByteArray := prog_5_method_5_code
def y_Csrs_isAllowed : MethodName := ⟨R_Csrs, "isAllowed", "(IIZ)Z"⟩
abbrev b_Csrs_read : ByteArray := prog_5_method_6_code
def y_Csrs_read : MethodName := ⟨R_Csrs, "read", "(II)I"⟩
abbrev b_Csrs_write : ByteArray := prog_5_method_7_code
def y_Csrs_write : MethodName := ⟨R_Csrs, "write", "(II)V"⟩
abbrev b_Csrs_writeSupervisor : ByteArray := prog_5_method_8_code
def y_Csrs_writeSupervisor : MethodName := ⟨R_Csrs, "writeSupervisor", "(II)V"⟩
abbrev b_Csrs_writeMachine : ByteArray := prog_5_method_9_code
def y_Csrs_writeMachine : MethodName := ⟨R_Csrs, "writeMachine", "(II)V"⟩
abbrev b_Csrs_merged : ByteArray := prog_5_method_10_code
def y_Csrs_merged : MethodName := ⟨R_Csrs, "merged", "(III)I"⟩
abbrev b_Csrs_withoutLevelTwo : ByteArray := prog_5_method_11_code
def y_Csrs_withoutLevelTwo : MethodName := ⟨R_Csrs, "withoutLevelTwo", "(I)I"⟩
abbrev b_Csrs_dueInterrupt : ByteArray := prog_5_method_12_code
def y_Csrs_dueInterrupt : MethodName := ⟨R_Csrs, "dueInterrupt", "(II)I"⟩
abbrev b_Csrs_firstOf : ByteArray := prog_5_method_13_code
def y_Csrs_firstOf : MethodName := ⟨R_Csrs, "firstOf", "(I)I"⟩
abbrev b_Csrs_handsDownTrap : ByteArray := prog_5_method_14_code
def y_Csrs_handsDownTrap : MethodName := ⟨R_Csrs, "handsDownTrap", "(I)Z"⟩
abbrev b_Csrs_handsDownInterrupt : ByteArray := prog_5_method_15_code
def y_Csrs_handsDownInterrupt : MethodName := ⟨R_Csrs, "handsDownInterrupt", "(I)Z"⟩
abbrev b_Csrs_enterSupervisor : ByteArray := prog_5_method_16_code
def y_Csrs_enterSupervisor : MethodName := ⟨R_Csrs, "enterSupervisor", "(IIII)I"⟩
abbrev b_Csrs_enterMachine : ByteArray := prog_5_method_17_code
def y_Csrs_enterMachine : MethodName := ⟨R_Csrs, "enterMachine", "(IIII)I"⟩
abbrev b_Csrs_leaveSupervisor : ByteArray := prog_5_method_18_code
def y_Csrs_leaveSupervisor : MethodName := ⟨R_Csrs, "leaveSupervisor", "()I"⟩
abbrev b_Csrs_leaveMachine : ByteArray := prog_5_method_19_code
def y_Csrs_leaveMachine : MethodName := ⟨R_Csrs, "leaveMachine", "()I"⟩
abbrev b_Csrs_dataLevel : ByteArray := prog_5_method_20_code
def y_Csrs_dataLevel : MethodName := ⟨R_Csrs, "dataLevel", "(I)I"⟩
abbrev b_Csrs_hasPages : ByteArray := prog_5_method_21_code
def y_Csrs_hasPages : MethodName := ⟨R_Csrs, "hasPages", "()Z"⟩
abbrev b_Csrs_rootPage : ByteArray := prog_5_method_22_code
def y_Csrs_rootPage : MethodName := ⟨R_Csrs, "rootPage", "()I"⟩
abbrev b_Csrs_levelBefore : ByteArray := prog_5_method_23_code
def y_Csrs_levelBefore : MethodName := ⟨R_Csrs, "levelBefore", "()I"⟩
abbrev b_Csrs_has : ByteArray := prog_5_method_24_code
def y_Csrs_has : MethodName := ⟨R_Csrs, "has", "(I)Z"⟩
abbrev b_Fault_of : ByteArray := prog_6_method_2_code
def y_Fault_of : MethodName := ⟨R_Fault, "of", "(I)J"⟩
abbrev b_Fault_causeOf : ByteArray := prog_6_method_3_code
def y_Fault_causeOf : MethodName := ⟨R_Fault, "causeOf", "(J)I"⟩
abbrev b_Field_rd : ByteArray := prog_7_method_2_code
def y_Field_rd : MethodName := ⟨R_Field, "rd", "(I)I"⟩
abbrev b_Field_rs1 : ByteArray := prog_7_method_3_code
def y_Field_rs1 : MethodName := ⟨R_Field, "rs1", "(I)I"⟩
abbrev b_Field_rs2 : ByteArray := prog_7_method_4_code
def y_Field_rs2 : MethodName := ⟨R_Field, "rs2", "(I)I"⟩
abbrev b_Field_f3 : ByteArray := prog_7_method_5_code
def y_Field_f3 : MethodName := ⟨R_Field, "f3", "(I)I"⟩
abbrev b_Field_f7 : ByteArray := prog_7_method_6_code
def y_Field_f7 : MethodName := ⟨R_Field, "f7", "(I)I"⟩
abbrev b_Field_immediate : ByteArray := prog_7_method_7_code
def y_Field_immediate : MethodName := ⟨R_Field, "immediate", "(I)I"⟩
abbrev b_Field_upper : ByteArray := prog_7_method_8_code
def y_Field_upper : MethodName := ⟨R_Field, "upper", "(I)I"⟩
abbrev b_Field_storeOffset : ByteArray := prog_7_method_9_code
def y_Field_storeOffset : MethodName := ⟨R_Field, "storeOffset", "(I)I"⟩
abbrev b_Field_jumpOffset : ByteArray := prog_7_method_10_code
def y_Field_jumpOffset : MethodName := ⟨R_Field, "jumpOffset", "(I)I"⟩
abbrev b_Field_branchOffset : ByteArray := prog_7_method_11_code
def y_Field_branchOffset : MethodName := ⟨R_Field, "branchOffset", "(I)I"⟩
abbrev b_Hart_init : ByteArray := prog_8_method_1_code
def y_Hart_init : MethodName := ⟨R_Hart, "<init>", "(I)V"⟩
abbrev b_Hart_restart : ByteArray := prog_8_method_2_code
def y_Hart_restart : MethodName := ⟨R_Hart, "restart", "()V"⟩
abbrev b_Hart_run : ByteArray := prog_8_method_3_code
def y_Hart_run : MethodName := ⟨R_Hart, "run", "(LTwinHart$Memory;)I"⟩
abbrev b_Hart_execute : ByteArray := prog_8_method_4_code
def y_Hart_execute : MethodName := ⟨R_Hart, "execute", "(ILTwinHart$Memory;)I"⟩
abbrev b_Hart_goOn : ByteArray := prog_8_method_5_code
def y_Hart_goOn : MethodName := ⟨R_Hart, "goOn", "()I"⟩
abbrev b_Hart_finish : ByteArray := prog_8_method_6_code
def y_Hart_finish : MethodName := ⟨R_Hart, "finish", "(II)I"⟩
abbrev b_Hart_write : ByteArray := prog_8_method_7_code
def y_Hart_write : MethodName := ⟨R_Hart, "write", "(II)V"⟩
abbrev b_Hart_trap : ByteArray := prog_8_method_8_code
def y_Hart_trap : MethodName := ⟨R_Hart, "trap", "(II)I"⟩
abbrev b_Hart_illegal : ByteArray := prog_8_method_9_code
def y_Hart_illegal : MethodName := ⟨R_Hart, "illegal", "(I)I"⟩
abbrev b_Hart_fault : ByteArray := prog_8_method_10_code
def y_Hart_fault : MethodName := ⟨R_Hart, "fault", "(JI)I"⟩
abbrev b_Hart_take : ByteArray := prog_8_method_11_code
def y_Hart_take : MethodName := ⟨R_Hart, "take", "(IIZ)V"⟩
abbrev b_Hart_locate : ByteArray := prog_8_method_12_code
def y_Hart_locate : MethodName := ⟨R_Hart, "locate", "(IILTwinHart$Access;LTwinHart$Memory;)J"⟩
abbrev b_Hart_jump : ByteArray := prog_8_method_13_code
def y_Hart_jump : MethodName := ⟨R_Hart, "jump", "(II)I"⟩
abbrev b_Hart_jumpByRegister : ByteArray := prog_8_method_14_code
def y_Hart_jumpByRegister : MethodName := ⟨R_Hart, "jumpByRegister", "(I)I"⟩
abbrev b_Hart_branch : ByteArray := prog_8_method_15_code
def y_Hart_branch : MethodName := ⟨R_Hart, "branch", "(I)I"⟩
abbrev b_Hart_load : ByteArray := prog_8_method_16_code
def y_Hart_load : MethodName := ⟨R_Hart, "load", "(ILTwinHart$Memory;)I"⟩
abbrev b_Hart_store : ByteArray := prog_8_method_17_code
def y_Hart_store : MethodName := ⟨R_Hart, "store", "(ILTwinHart$Memory;)I"⟩
abbrev b_Hart_computeWithImmediate : ByteArray := prog_8_method_18_code
def y_Hart_computeWithImmediate : MethodName := ⟨R_Hart, "computeWithImmediate", "(I)I"⟩
abbrev b_Hart_compute : ByteArray := prog_8_method_19_code
def y_Hart_compute : MethodName := ⟨R_Hart, "compute", "(I)I"⟩
abbrev b_Hart_changeAtOnce : ByteArray := prog_8_method_20_code
def y_Hart_changeAtOnce : MethodName := ⟨R_Hart, "changeAtOnce", "(ILTwinHart$Memory;)I"⟩
abbrev b_Hart_isChange : ByteArray := prog_8_method_21_code
def y_Hart_isChange : MethodName := ⟨R_Hart, "isChange", "(II)Z"⟩
abbrev b_Hart_callSystem : ByteArray := prog_8_method_22_code
def y_Hart_callSystem : MethodName := ⟨R_Hart, "callSystem", "(I)I"⟩
abbrev b_Hart_returnFromMachine : ByteArray := prog_8_method_23_code
def y_Hart_returnFromMachine : MethodName := ⟨R_Hart, "returnFromMachine", "()I"⟩
abbrev b_Hart_returnFromSupervisor : ByteArray := prog_8_method_24_code
def y_Hart_returnFromSupervisor : MethodName := ⟨R_Hart, "returnFromSupervisor", "()I"⟩
abbrev b_Hart_exchange : ByteArray := prog_8_method_25_code
def y_Hart_exchange : MethodName := ⟨R_Hart, "exchange", "(ILTwinHart$Memory;)I"⟩
abbrev b_Hart_mixed : ByteArray := prog_8_method_26_code
def y_Hart_mixed : MethodName := ⟨R_Hart, "mixed", "(III)I"⟩
abbrev b_Memory_init : ByteArray := prog_9_method_1_code
def y_Memory_init : MethodName := ⟨R_Memory, "<init>", "(I)V"⟩
abbrev b_Memory_restart : ByteArray := prog_9_method_2_code
def y_Memory_restart : MethodName := ⟨R_Memory, "restart", "()V"⟩
abbrev b_Memory_hasWord : ByteArray := prog_9_method_3_code
def y_Memory_hasWord : MethodName := ⟨R_Memory, "hasWord", "(I)Z"⟩
abbrev b_Memory_isRam : ByteArray := prog_9_method_4_code
def y_Memory_isRam : MethodName := ⟨R_Memory, "isRam", "(J)Z"⟩
abbrev b_Memory_allows : ByteArray := prog_9_method_5_code
def y_Memory_allows : MethodName := ⟨R_Memory, "allows", "(JILTwinHart$Access;)Z"⟩
abbrev b_Memory_wordAt : ByteArray := prog_9_method_6_code
def y_Memory_wordAt : MethodName := ⟨R_Memory, "wordAt", "(J)I"⟩
abbrev b_Memory_load : ByteArray := prog_9_method_7_code
def y_Memory_load : MethodName := ⟨R_Memory, "load", "(JI)I"⟩
abbrev b_Memory_store : ByteArray := prog_9_method_8_code
def y_Memory_store : MethodName := ⟨R_Memory, "store", "(JII)V"⟩
abbrev b_Memory_print : ByteArray := prog_9_method_9_code
def y_Memory_print : MethodName := ⟨R_Memory, "print", "(I)V"⟩
abbrev b_Memory_claim : ByteArray := prog_9_method_10_code
def y_Memory_claim : MethodName := ⟨R_Memory, "claim", "(IJ)V"⟩
abbrev b_Memory_storeIfClaimed : ByteArray := prog_9_method_11_code
def y_Memory_storeIfClaimed : MethodName := ⟨R_Memory, "storeIfClaimed", "(IJI)Z"⟩
abbrev b_Memory_dropClaims : ByteArray := prog_9_method_12_code
def y_Memory_dropClaims : MethodName := ⟨R_Memory, "dropClaims", "()V"⟩
abbrev b_Memory_indexOf : ByteArray := prog_9_method_13_code
def y_Memory_indexOf : MethodName := ⟨R_Memory, "indexOf", "(J)I"⟩
abbrev b_Memory_shiftOf : ByteArray := prog_9_method_14_code
def y_Memory_shiftOf : MethodName := ⟨R_Memory, "shiftOf", "(J)I"⟩
abbrev b_Memory_maskOf : ByteArray := prog_9_method_15_code
def y_Memory_maskOf : MethodName := ⟨R_Memory, "maskOf", "(I)I"⟩
abbrev b_Pages_placeOf : ByteArray := prog_10_method_2_code
def y_Pages_placeOf : MethodName := ⟨R_Pages, "placeOf", "(ILTwinHart$Access;ILTwinHart$Csrs;LTwinHart$Memory;)J"⟩
abbrev b_Pages_entryPlace : ByteArray := prog_10_method_3_code
def y_Pages_entryPlace : MethodName := ⟨R_Pages, "entryPlace", "(II)J"⟩
abbrev b_Pages_isPage : ByteArray := prog_10_method_4_code
def y_Pages_isPage : MethodName := ⟨R_Pages, "isPage", "(I)Z"⟩
abbrev b_Pages_admits : ByteArray := prog_10_method_5_code
def y_Pages_admits : MethodName := ⟨R_Pages, "admits", "(ILTwinHart$Access;II)Z"⟩
abbrev b_law_cell : ByteArray := method_2_code
def y_law_cell : MethodName := ⟨R_law, "cell", "([II)I"⟩
-- ===== base: one list of words for every method, one form of contract =====
def tb : List Cond := lw_tbl.filter goodWord
theorem tb_in {w : Cond} (h : w ∈ lw_tbl) (hg : goodWord w = true) : w ∈ tb := List.mem_filter.mpr ⟨h, hg⟩
theorem tb_sub {w : Cond} (h : w ∈ tb) : w ∈ lw_tbl := (List.mem_filter.mp h).1
theorem tb_good {w : Cond} (h : w ∈ tb) : goodWord w = true := (List.mem_filter.mp h).2
theorem tb_G {w0 : Cond} (h0 : w0 ∈ tb) : GoodIn tb (w0 :: tb) := by
  intro w h
  rcases List.mem_cons.mp h with rfl | h
  · exact ⟨h0, good_of_word (tb_good h0)⟩
  · exact ⟨h, good_of_word (tb_good h)⟩
/-- links between nest mates aren't words that travel: they go along in the contracts -/
def isNest (w : Cond) : Bool := match w with
  | .fieldLinkNest .. => true
  | .methodLinkNest .. => true
  | _ => false
def NW (U : State) : Prop := ∀ w ∈ lw_tbl, isNest w = true → va_Nw w U
theorem NW.warm {s U : State} (hW : s.WarmedH U.vm) (h : NW s) : NW U := by
  intro w hw hn
  cases w <;> first | exact va_Nw.warmF hW (h _ hw hn) | exact va_Nw.warmM hW (h _ hw hn) | exact absurd hn (by simp [isNest])
theorem NW.same {u U : State} (hv : u.vm = U.vm) (h : NW u) : NW U := fun w hw hn => va_Nw.same (by cases w <;> first | rfl | (simp [isNest] at hn)) hv (h w hw hn)
-- ===== what the start gives of statics: the enum's constants, the table of interrupts =====
theorem tb_m {w : Cond} (i : Nat) (h : tables_1[i]? = some w) (hg : goodWord w = true) : w ∈ tb := tb_in (List.mem_append_right _ (List.mem_of_getElem? h)) hg
theorem tb_p {w : Cond} (i : Nat) (h : (k2_sels lw_privs)[i]? = some w) (hg : goodWord w = true) : w ∈ tb := tb_in (List.mem_append_left _ (List.mem_of_getElem? h)) hg
theorem u_in_tb {C : String} {T : u_T} {N : Nat} (ps : List Nat) (h : u_ws C T N = ps.filterMap (fun i => tables_1[i]?)) (hg : (u_ws C T N).all goodWord = true) : ∀ w ∈ u_ws C T N, w ∈ tb := by
  intro w hw
  have h1 := List.all_eq_true.mp hg w hw
  rw [h] at hw
  obtain ⟨i, -, hi⟩ := List.mem_filterMap.mp hw
  exact tb_m i hi h1
abbrev aF_misaligned : List Int32 := [0, 4, 6, 4, 6]
abbrev aF_accessFault : List Int32 := [1, 5, 7, 5, 7]
abbrev aF_pageFault : List Int32 := [12, 13, 15, 13, 15]
abbrev aF_ramAlone : List Int32 := [1, 0, 0, 1, 1]
abbrev aF_stores : List Int32 := [0, 0, 1, 0, 1]
abbrev q_misaligned : String × String × String × List Int32 := (R_Access, "misaligned", "I", aF_misaligned)
abbrev q_accessFault : String × String × String × List Int32 := (R_Access, "accessFault", "I", aF_accessFault)
abbrev q_pageFault : String × String × String × List Int32 := (R_Access, "pageFault", "I", aF_pageFault)
abbrev q_ramAlone : String × String × String × List Int32 := (R_Access, "ramAlone", "Z", aF_ramAlone)
abbrev q_stores : String × String × String × List Int32 := (R_Access, "stores", "Z", aF_stores)
abbrev FlA : List (String × String × String × List Int32) := [q_misaligned, q_accessFault, q_pageFault, q_ramAlone, q_stores]
abbrev nmA : List String := ["FETCH", "LOAD", "STORE", "CLAIM", "CHANGE"]
abbrev tabF : Nat → Value := fun j => .int (([3, 7, 9, 1, 5] : List Int32).getD j 0)
def SF (g : Nat → Nat) (A : Nat → Prop) (U : State) (H : Heap) : Prop :=
  NW U ∧ va_En R_Access "LTwinHart$Access;" nmA FlA (fun i => g (i + 1)) A U H ∧ va_Z R_Csrs "INTERRUPT_ORDER" "[I" (.ref (g 0)) A U H ∧ va_T .int (g 0) 5 tabF A U H
theorem SF.kept {g : Nat → Nat} {A : Nat → Prop} {U : State} {H H1 : Heap} (h : SF g A U H) (hq : ∀ a : Nat, a < H.size → ¬ A a → H1[a]? = H[a]?) : SF g A U H1 := ⟨h.1, h.2.1.kept hq, h.2.2.1.kept hq, h.2.2.2.kept hq⟩
theorem SF.narrow {g : Nat → Nat} {A B : Nat → Prop} {U : State} {H : Heap} (h : SF g A U H) (hAB : ∀ q, B q → A q) : SF g B U H := ⟨h.1, h.2.1.narrow hAB, h.2.2.1.narrow hAB, h.2.2.2.narrow hAB⟩
theorem SF.warm {g : Nat → Nat} {A : Nat → Prop} {s U : State} {H : Heap} (hW : s.WarmedH U.vm) (h : SF g A s H) : SF g A U H := ⟨h.1.warm hW, va_En.moved hW.alike h.2.1, va_Z.moved hW.alike h.2.2.1, va_T.moved hW.alike h.2.2.2⟩
theorem SF.same {g : Nat → Nat} {A : Nat → Prop} {u U : State} {H H1 : Heap} (hv : u.vm = U.vm) (hh : H = H1) (h : SF g A u H) : SF g A U H1 := by
  subst hh
  have al : u.vm.Alike U.vm := by rw [hv]; exact Vm.Alike.refl _
  exact ⟨h.1.same hv, va_En.moved al h.2.1, va_Z.moved al h.2.2.1, va_T.moved al h.2.2.2⟩
-- ===== the class's worlds =====
abbrev TM : Type := (Nat → Int32) × (Nat → Int32) × (Nat → Int32) × Int32 × (Nat → Int64)
abbrev TH : Type := TM × (Nat → Int32) × Int32 × Int32 × Int32 × (Nat → Int32)
abbrev csF (q : Nat → Int32) : List Value := [.int (q 0), .int (q 1), .int (q 2), .int (q 3), .int (q 4), .int (q 5), .int (q 6), .int (q 7), .int (q 8), .int (q 9), .int (q 10), .int (q 11), .int (q 12), .int (q 13), .int (q 14), .int (q 15), .int (q 16)]
abbrev wC (h : Nat) (q : Nat → Int32) : va_W := [(h, .inr (3, csF q))]
abbrev wK (a : Nat → Nat) (k : Nat → ClassId) (w : Nat → Int32) : va_W := [(a 1, .inr (2, [.ref (a 2)])), (a 2, .inl (k 0, 8, .inl w))]
abbrev wM (a : Nat → Nat) (k : Nat → ClassId) (n : Nat) (M : TM) : va_W := [(a 0, .inr (1, [.ref (a 3), .ref (a 1), .ref (a 4), .int M.2.2.2.1, .ref (a 5)])), (a 1, .inr (2, [.ref (a 2)])), (a 2, .inl (k 0, 8, .inl M.1)), (a 3, .inl (k 1, n, .inl M.2.1)), (a 4, .inl (k 2, 256, .inl M.2.2.1)), (a 5, .inl (k 3, 2, .inr (.inl M.2.2.2.2)))]
abbrev wH (a : Nat → Nat) (k : Nat → ClassId) (n : Nat) (id : Int32) (σ : TH) : va_W := [(a 0, .inr (1, [.ref (a 3), .ref (a 1), .ref (a 4), .int σ.1.2.2.2.1, .ref (a 5)])), (a 1, .inr (2, [.ref (a 2)])), (a 2, .inl (k 0, 8, .inl σ.1.1)), (a 3, .inl (k 1, n, .inl σ.1.2.1)), (a 4, .inl (k 2, 256, .inl σ.1.2.2.1)), (a 5, .inl (k 3, 2, .inr (.inl σ.1.2.2.2.2))), (a 6, .inr (4, [.int id, .ref (a 7), .ref (a 8), .int σ.2.2.1, .int σ.2.2.2.1, .int σ.2.2.2.2.1])), (a 7, .inl (k 4, 32, .inl σ.2.1)), (a 8, .inr (3, csF σ.2.2.2.2.2))]
abbrev tyM (k : Nat → ClassId) : List (ClassId × FieldType) := [(k 0, .int), (k 1, .int), (k 2, .byte), (k 3, .long)]
abbrev tyH (k : Nat → ClassId) : List (ClassId × FieldType) := [(k 0, .int), (k 1, .int), (k 2, .byte), (k 3, .long), (k 4, .int)]
/-- what a call of y needs of the tables -/
def MW (y : MethodName) (b : ByteArray) (nL : Nat) (ret : Option FieldType) (n : Nat) : Prop :=
  Cond.code y b nL ret ∈ tb ∧ Cond.initialized y.cls ∈ tb ∧ (y.cls ≠ "java/lang/invoke/MethodHandle" ∧ y.cls ≠ "java/lang/invoke/VarHandle" ∧ (parseMethodDescriptor y.desc).map (fun d => d.parameters.length) = some n)
def MWV (y : MethodName) : Prop := Cond.instanceMethod y ∈ tb ∧ Cond.selects y.cls y y ∈ tb
def MWS (y : MethodName) : Prop := Cond.static y ∈ tb
def PcT (D : va_G) (g : Nat → Nat) (As : List Value) (ws : va_W) (tys : List (ClassId × FieldType)) (sz : Nat) : Array Value → State → Prop :=
  va_Pc As (fun U => U.heap.size = sz ∧ va_P D classes ws U.heap ∧ va_K D classes tys U ∧ va_D (fun _ => True) ws ∧ SF g (va_A ws sz) U U.heap)
def BT {S : Type} (D : va_G) (W1 : S → va_W) (A : Nat → Prop) (u : S) (t : State) : Prop := va_P D classes (W1 u) t.heap ∧ va_D A (W1 u)
abbrev TQ : Type := (Nat → Prop) → Array Value → State → Outcome → State → Prop
abbrev Qi {S : Type} (D : va_G) (post : Int32 → S → Prop) (W1 : S → va_W) : TQ := fun A => va_Qi post (BT D W1 A) A
abbrev Ql {S : Type} (D : va_G) (post : Int64 → S → Prop) (W1 : S → va_W) : TQ := fun A => va_Ql post (BT D W1 A) A
abbrev Qv {S : Type} (D : va_G) (post : S → Prop) (W1 : S → va_W) : TQ := fun A => va_Qv post (BT D W1 A) A
/-- the contract of a method that makes no cell -/
def CT (l : Launch) (D : va_G) (g : Nat → Nat) (y : MethodName) (b : ByteArray) (nL : Nat) (ret : Option FieldType) (rm : Room) (As : List Value) (ws : va_W) (tys : List (ClassId × FieldType)) (Qc : TQ) : Prop :=
  ∀ sz : Nat, Met l y (.code y b nL ret :: tb) rm (PcT D g As ws tys sz) (Qc (va_A ws sz)) 0 0 (va_A ws sz)
abbrev rD (d : Nat) : Room := { frames := d, cells := 0, slots := 0, locals := 48 * d }
section Base1
variable {l : Launch} {D : va_G} {g : Nat → Nat} {y : MethodName} {b : ByteArray} {nL : Nat} {ret : Option FieldType} {rm : Room} {As : List Value} {ws : va_W} {tys : List (ClassId × FieldType)} {Qc : TQ}
theorem CT.of (hy : plainName y.cls = true) (hn : (lg_sl As).length ≤ nL)
    (body : ∀ (p : Program) (e : Env) (s : State) (m : MethodId) (below : List Frame) (meth : Method) (c : Code) (A : Nat → Prop) (ls : Array Slot), p.tables.exec = Jvm.exec → c.code = b → meth.sig.returnType = ret → c.maxLocals = nL → (∀ w ∈ tb, w.before As.toArray s = true) → s.vm.findClass y.cls = some m.cls → meth.locks = false → (∀ q : Nat, s.heap.size ≤ q → A q) → va_P D classes ws s.heap → va_K D classes tys s → va_D A ws → SF g A s s.heap → va_S A s.heap s.heap [] → lv_has ls nL (lv_args 0 As) →
      W p l e rm s m As.toArray below meth c s.heap [] 0 0 (MQ below (Qc A) As.toArray s 0 0 A) (F0 m 0 ls [])) : CT l D g y b nL ret rm As ws tys Qc := by
  intro sz
  refine Met.ofW (cc := b) (maxL := nL) (ret := ret) hy rfl ?_
  intro p e s m args below meth c s₁ B hml hv
  obtain ⟨rfl, hsz, hP, hK, hD0, hF⟩ := hv
  have hts := atoms_spec (ws := .code y b nL ret :: tb) B.pre
  have hown : s.vm.findClass y.cls = some m.cls := findClass_of_methodNamed B.named
  subst hsz
  have hD := hD0.self (sz := s.heap.size)
  have hl := lv_entry As (n := nL) hn
  rw [lg_entry_eq]
  exact body p e s m below meth c _ _ B.exec B.bytes B.returns hml (fun w h => hts w (List.mem_cons_of_mem _ h)) hown B.notSynchronized (fun q h => Or.inr h) hP hK hD hF va_S.rf hl
end Base1
section Base2
variable {p : Program} {l : Launch} {e : Env} {R : Room} {s : State} {m : MethodId} {args : Array Value} {below : List Frame} {meth : Method} {c : Code} {H : Heap} {locs : List Loc} {cells slots : Nat} {Q : State → Prop}
variable {D : va_G} {g : Nat → Nat} {y : MethodName} {yb cc : ByteArray} {yn nL index n pc : Nat} {ret : Option FieldType} {rm : Room} {As rest st0 : List Value} {ws wc wr : va_W} {tys tysc : List (ClassId × FieldType)} {Qc : TQ} {A : Nat → Prop} {own host : String} {ls : Array Slot} {a : Nat}
/-- what the callee's start asks, out of the caller's world -/
theorem x_pre (hK : va_K D classes tys s) (hP : va_P D classes ws H) (hD : va_D A ws) (hS : va_S A s.heap H locs) (hA : ∀ q : Nat, s.heap.size ≤ q → A q) (hF : SF g A s s.heap) (isC isT : List Nat) (hC : isC.map (fun i => ws[i]?) = wc.map some) (hnC : va_nd isC = true) (hT : isT.filterMap (fun i => tys[i]?) = tysc) :
    FrameBlind (PcT D g As wc tysc H.size) ∧ ∀ U : State, U.heap = H → s.WarmedH U.vm → PcT D g As wc tysc H.size As.toArray U := by
  have hf := va_free (wc := wc) hD hS hA isC hC
  refine ⟨fun a U g1 mk q => ?_, fun U hU hW => ⟨rfl, by rw [hU], ?_, va_K.moved hW.alike (hK.sub isT hT), (hD.sub isC hnC hC).weaken (fun _ _ _ _ => trivial), ?_⟩⟩
  · obtain ⟨q0, q1, qP, qK, qD, qF⟩ := q
    exact ⟨q0, q1, qP, va_K.moved (u := U) (U := U.calling g1 mk a) (Vm.Alike.refl U.vm) qK, qD, SF.same (u := U) (U := U.calling g1 mk a) rfl rfl qF⟩
  · rw [hU]
    intro k q hk
    have h1 : (isC.map (fun i => ws[i]?))[k]? = some (some q) := by rw [hC, List.getElem?_map, hk]; rfl
    rw [List.getElem?_map] at h1
    cases hi : isC[k]? with
    | none => rw [hi] at h1; cases h1
    | some i => rw [hi] at h1; exact hP i q (Option.some.inj h1)
  · rw [hU]
    exact ((hF.kept hS.2.1).narrow hf).warm hW
theorem x_cb (C : CallFix p m c cc nL s args tb own) (hw : MW y yb yn ret n) (hlink : Cond.methodLink own index y ∈ tb) (hrm : rm.cells = 0 ∧ rm.slots = 0 ∧ rm.frames + 1 ≤ R.frames ∧ 8 + (yn + 11) + rm.locals ≤ R.locals) :
    CallB R s args own index y yb yn ret (.code y yb yn ret :: tb) rm 0 0 n :=
  callB_of n C.2.2.2.2 (tb_G hw.1) rfl hrm.1 hrm.2.1 (C.2.2.2.2 _ hw.2.1) (C.2.2.2.2 _ hlink) hw.2.2 hrm.2.2
/-- an instance method of its own class -/
theorem xV (C : CallFix p m c cc nL s args tb own) (hM : CT l D g y yb yn ret rm (.ref a :: As) wc tysc Qc) (hw : MW y yb yn ret n) (hv : MWV y) (hlink : Cond.methodLink own index y ∈ tb) (hrm : rm.cells = 0 ∧ rm.slots = 0 ∧ rm.frames + 1 ≤ R.frames ∧ 8 + (yn + 11) + rm.locals ≤ R.locals)
    (hK : va_K D classes tys s) (hP : va_P D classes ws H) (hD : va_D A ws) (hS : va_S A s.heap H locs) (hA : ∀ q : Nat, s.heap.size ≤ q → A q) (hF : SF g A s s.heap) (isC isT : List Nat) (hC : isC.map (fun i => ws[i]?) = wc.map some) (hnC : va_nd isC = true) (hT : isT.filterMap (fun i => tys[i]?) = tysc)
    (q0 ci : Nat) {fs : List Value} {r : vw_C} (hc : classes[ci]? = some r) (hcr : r.1 = y.cls) (he : ws[q0]? = some (a, .inr (ci, fs))) (hn : As.length = n) (hl : ls.size = nL) (hst : st0 = As.reverse ++ .ref a :: rest) (hcat : (rest.map fun v => v.category).sum ≤ 8) (hdg : decode cc pc = .ok (.invokevirtual index, 3)) (hf : cells ≤ R.cells ∧ slots ≤ R.slots) :
    va_Run p l e R s m args below meth c H locs cells slots 0 0 (F0 m pc ls st0) rest (Qc (va_A wc H.size) (Value.ref a :: As).toArray) (va_A wc H.size) := by
  obtain ⟨hp1, hp2⟩ := x_pre (As := .ref a :: As) (g := g) hK hP hD hS hA hF isC isT hC hnC hT
  have hrc := va_recv hK hP hc he
  rw [hcr] at hrc
  exact va_runV (C := y.cls) C (hM H.size) ⟨x_cb C hw hlink hrm, C.2.2.2.2 _ hv.1, C.2.2.2.2 _ hv.2⟩ ⟨hp1, hrc, hp2⟩ rfl hn hl hst (lv_room hcat) hdg hf
/-- a static method -/
theorem xS (C : CallFix p m c cc nL s args tb own) (hM : CT l D g y yb yn ret rm As wc tysc Qc) (hw : MW y yb yn ret n) (hv : MWS y) (hlink : Cond.methodLink own index y ∈ tb) (hrm : rm.cells = 0 ∧ rm.slots = 0 ∧ rm.frames + 1 ≤ R.frames ∧ 8 + (yn + 11) + rm.locals ≤ R.locals)
    (hK : va_K D classes tys s) (hP : va_P D classes ws H) (hD : va_D A ws) (hS : va_S A s.heap H locs) (hA : ∀ q : Nat, s.heap.size ≤ q → A q) (hF : SF g A s s.heap) (isC isT : List Nat) (hC : isC.map (fun i => ws[i]?) = wc.map some) (hnC : va_nd isC = true) (hT : isT.filterMap (fun i => tys[i]?) = tysc)
    (hn : As.length = n) (hl : ls.size = nL) (hst : st0 = As.reverse ++ rest) (hcat : (rest.map fun v => v.category).sum ≤ 8) (hdg : decode cc pc = .ok (.invokestatic index, 3)) (hf : cells ≤ R.cells ∧ slots ≤ R.slots) :
    va_Run p l e R s m args below meth c H locs cells slots 0 0 (F0 m pc ls st0) rest (Qc (va_A wc H.size) As.toArray) (va_A wc H.size) :=
  va_runS C (hM H.size) ⟨x_cb C hw hlink hrm, C.2.2.2.2 _ hv⟩ (x_pre (g := g) hK hP hD hS hA hF isC isT hC hnC hT) rfl hn hl hst (lv_room hcat) hdg hf
/-- behind a call: the world, in its old order -/
theorem x_post {S : Type} {W1 W2 : S → va_W} {u : S} {t : State} {H1 : Heap} (hP : va_P D classes ws H) (hD : va_D A ws) (hS : va_S A s.heap H locs) (hA : ∀ q : Nat, s.heap.size ≤ q → A q) (isC isR isO : List Nat) (hC : isC.map (fun i => ws[i]?) = wc.map some) (hR : isR.map (fun i => ws[i]?) = wr.map some) (hnR : va_nd isR = true) (hdis : ∀ i ∈ isR, i ∉ isC) (hO : ∀ u, isO.map (fun i => (wr ++ W1 u)[i]?) = (W2 u).map some) (hnO : va_nd isO = true)
    (ht : t.heap = H1) (hk : ∀ q : Nat, q < H.size → ¬ va_A wc H.size q → H1[q]? = H[q]?) (hB : BT D W1 (va_A wc H.size) u t) : va_P D classes (W2 u) H1 ∧ va_D A (W2 u) := by
  obtain ⟨hP1, hD1⟩ := hB
  rw [ht] at hP1
  obtain ⟨h1, h2⟩ := va_join (wr := wr) (w1 := W1 u) hP hD isC isR hC hR hnR hdis hk (va_free (wc := wc) hD hS hA isC hC) hP1 hD1
  refine ⟨?_, h2.sub isO hnO (hO u)⟩
  intro k q hq
  have h3 : (isO.map (fun i => (wr ++ W1 u)[i]?))[k]? = some (some q) := by rw [hO u, List.getElem?_map, hq]; rfl
  rw [List.getElem?_map] at h3
  cases hi : isO[k]? with
  | none => rw [hi] at h3; cases h3
  | some i => rw [hi] at h3; exact h1 i q (Option.some.inj h3)
theorem xi {S : Type} {post : Int32 → S → Prop} {W1 W2 : S → va_W} {av : Array Value} (hr : va_Run p l e R s m args below meth c H locs cells slots 0 0 (F0 m pc ls st0) rest (Qi D post W1 (va_A wc H.size) av) (va_A wc H.size))
    (hP : va_P D classes ws H) (hD : va_D A ws) (hS : va_S A s.heap H locs) (hA : ∀ q : Nat, s.heap.size ≤ q → A q) (isC isR isO : List Nat) (hC : isC.map (fun i => ws[i]?) = wc.map some) (hR : isR.map (fun i => ws[i]?) = wr.map some) (hnR : va_nd isR = true) (hdis : ∀ i ∈ isR, i ∉ isC) (hO : ∀ u, isO.map (fun i => (wr ++ W1 u)[i]?) = (W2 u).map some) (hnO : va_nd isO = true)
    (kk : ∀ (r : Int32) (u : S) (H1 : Heap) (locs1 : List Loc), post r u → va_P D classes (W2 u) H1 → va_D A (W2 u) → va_S A s.heap H1 locs1 → W p l e R s m args below meth c H1 locs1 cells slots Q (F0 m (pc + 3) ls (.int r :: rest))) : W p l e R s m args below meth c H locs cells slots Q (F0 m pc ls st0) := by
  have hf := va_free (wc := wc) hD hS hA isC hC
  refine va_calli hr hS (fun q _ h => hf q h) hf (fun r u t H1 locs1 ht hvm hw hB hz hk hS1 => ?_)
  obtain ⟨h1, h2⟩ := x_post (W2 := W2) hP hD hS hA isC isR isO hC hR hnR hdis hO hnO ht hk hB
  exact kk r u H1 locs1 hw h1 h2 hS1
theorem xl {S : Type} {post : Int64 → S → Prop} {W1 W2 : S → va_W} {av : Array Value} (hr : va_Run p l e R s m args below meth c H locs cells slots 0 0 (F0 m pc ls st0) rest (Ql D post W1 (va_A wc H.size) av) (va_A wc H.size))
    (hP : va_P D classes ws H) (hD : va_D A ws) (hS : va_S A s.heap H locs) (hA : ∀ q : Nat, s.heap.size ≤ q → A q) (isC isR isO : List Nat) (hC : isC.map (fun i => ws[i]?) = wc.map some) (hR : isR.map (fun i => ws[i]?) = wr.map some) (hnR : va_nd isR = true) (hdis : ∀ i ∈ isR, i ∉ isC) (hO : ∀ u, isO.map (fun i => (wr ++ W1 u)[i]?) = (W2 u).map some) (hnO : va_nd isO = true)
    (kk : ∀ (r : Int64) (u : S) (H1 : Heap) (locs1 : List Loc), post r u → va_P D classes (W2 u) H1 → va_D A (W2 u) → va_S A s.heap H1 locs1 → W p l e R s m args below meth c H1 locs1 cells slots Q (F0 m (pc + 3) ls (.long r :: rest))) : W p l e R s m args below meth c H locs cells slots Q (F0 m pc ls st0) := by
  have hf := va_free (wc := wc) hD hS hA isC hC
  refine va_calll hr hS (fun q _ h => hf q h) hf (fun r u t H1 locs1 ht hvm hw hB hz hk hS1 => ?_)
  obtain ⟨h1, h2⟩ := x_post (W2 := W2) hP hD hS hA isC isR isO hC hR hnR hdis hO hnO ht hk hB
  exact kk r u H1 locs1 hw h1 h2 hS1
theorem xv {S : Type} {post : S → Prop} {W1 W2 : S → va_W} {av : Array Value} (hr : va_Run p l e R s m args below meth c H locs cells slots 0 0 (F0 m pc ls st0) rest (Qv D post W1 (va_A wc H.size) av) (va_A wc H.size))
    (hP : va_P D classes ws H) (hD : va_D A ws) (hS : va_S A s.heap H locs) (hA : ∀ q : Nat, s.heap.size ≤ q → A q) (isC isR isO : List Nat) (hC : isC.map (fun i => ws[i]?) = wc.map some) (hR : isR.map (fun i => ws[i]?) = wr.map some) (hnR : va_nd isR = true) (hdis : ∀ i ∈ isR, i ∉ isC) (hO : ∀ u, isO.map (fun i => (wr ++ W1 u)[i]?) = (W2 u).map some) (hnO : va_nd isO = true)
    (kk : ∀ (u : S) (H1 : Heap) (locs1 : List Loc), post u → va_P D classes (W2 u) H1 → va_D A (W2 u) → va_S A s.heap H1 locs1 → W p l e R s m args below meth c H1 locs1 cells slots Q (F0 m (pc + 3) ls rest)) : W p l e R s m args below meth c H locs cells slots Q (F0 m pc ls st0) := by
  have hf := va_free (wc := wc) hD hS hA isC hC
  refine va_callv hr hS (fun q _ h => hf q h) hf (fun u t H1 locs1 ht hvm hw hB hz hk hS1 => ?_)
  obtain ⟨h1, h2⟩ := x_post (W2 := W2) hP hD hS hA isC isR isO hC hR hnR hdis hO hnO ht hk hB
  exact kk u H1 locs1 hw h1 h2 hS1
/-- ends -/
theorem ri {S : Type} {post : Int32 → S → Prop} {W1 : S → va_W} (u : S) {v : Int32} (hx : p.tables.exec = Jvm.exec) (hb : c.code = cc) (hr : meth.sig.returnType = some .int) (hlocks : meth.locks = false) (hP : va_P D classes (W1 u) H) (hD : va_D A (W1 u)) (hS : va_S A s.heap H locs) (hdg : decode cc pc = .ok (.ireturn, 1)) (hpost : post v u) : W p l e R s m args below meth c H locs 0 0 (MQ below (Qi D post W1 A) args s 0 0 A) (F0 m pc ls [.int v]) :=
  W.iret hx hb hr (fun t ht _ => ⟨⟨v, u, rfl, hpost, by rw [ht]; exact hP, hD⟩, hS.F ht⟩) hS.2.2 hdg hlocks
theorem rz {S : Type} {post : Int32 → S → Prop} {W1 : S → va_W} (u : S) {v : Int32} {ty : FieldType} (hx : p.tables.exec = Jvm.exec) (hb : c.code = cc) (hr : meth.sig.returnType = some ty) (hlocks : meth.locks = false) (hn : narrow ty (.int v) = .int v) (hP : va_P D classes (W1 u) H) (hD : va_D A (W1 u)) (hS : va_S A s.heap H locs) (hdg : decode cc pc = .ok (.ireturn, 1)) (hpost : post v u) : W p l e R s m args below meth c H locs 0 0 (MQ below (Qi D post W1 A) args s 0 0 A) (F0 m pc ls [.int v]) :=
  W.zret hx hb hr hn (fun t ht _ => ⟨⟨v, u, rfl, hpost, by rw [ht]; exact hP, hD⟩, hS.F ht⟩) hS.2.2 hdg hlocks
theorem rl {S : Type} {post : Int64 → S → Prop} {W1 : S → va_W} (u : S) {v : Int64} (hx : p.tables.exec = Jvm.exec) (hb : c.code = cc) (hr : meth.sig.returnType = some .long) (hlocks : meth.locks = false) (hP : va_P D classes (W1 u) H) (hD : va_D A (W1 u)) (hS : va_S A s.heap H locs) (hdg : decode cc pc = .ok (.lreturn, 1)) (hpost : post v u) : W p l e R s m args below meth c H locs 0 0 (MQ below (Ql D post W1 A) args s 0 0 A) (F0 m pc ls [.long v]) :=
  W.lret hx hb hr (fun t ht _ => ⟨⟨v, u, rfl, hpost, by rw [ht]; exact hP, hD⟩, hS.F ht⟩) hS.2.2 hdg hlocks
theorem rv {S : Type} {post : S → Prop} {W1 : S → va_W} (u : S) (hx : p.tables.exec = Jvm.exec) (hb : c.code = cc) (hr : meth.sig.returnType = none) (hlocks : meth.locks = false) (hP : va_P D classes (W1 u) H) (hD : va_D A (W1 u)) (hS : va_S A s.heap H locs) (hdg : decode cc pc = .ok (.return_, 1)) (hpost : post u) : W p l e R s m args below meth c H locs 0 0 (MQ below (Qv D post W1 A) args s 0 0 A) (F0 m pc ls []) :=
  W.vret hx hb hr (fun t ht _ => ⟨⟨u, rfl, hpost, by rw [ht]; exact hP, hD⟩, hS.F ht⟩) hS.2.2 hdg hlocks
end Base2
-- ===== rows of the kit with the new world named =====
def ush (x y : Int32) : Int32 := (x.toUInt32 >>> (y.toUInt32 &&& Int32.toUInt32 31)).toInt32
def lush (x : Int64) (y : Int32) : Int64 := (x.toUInt64 >>> (y.toInt64.toUInt64 &&& Int64.toUInt64 63)).toInt64
def lshl (x : Int64) (y : Int32) : Int64 := x <<< (y.toInt64 &&& 63)
def lshr (x : Int64) (y : Int32) : Int64 := x >>> (y.toInt64 &&& 63)
def shl (x y : Int32) : Int32 := x <<< (y &&& 31)
def shr (x y : Int32) : Int32 := x >>> (y &&& 31)
theorem nz {r : Int32} (h : r = 0 ∨ r = 1) : narrow .boolean (.int r) = .int r := by
  rcases h with rfl | rfl <;> rfl
section Rows2
variable {p : Program} {l : Launch} {e : Env} {R : Room} {s : State} {m : MethodId} {args : Array Value} {below : List Frame} {meth : Method} {c : Code} {H : Heap} {locs : List Loc} {cells slots : Nat} {Q : State → Prop}
variable {cc : ByteArray} {pc : Nat} {ls : Array Slot} {rest : List Value} {D : va_G} {cl : List vw_C} {A : Nat → Prop} {a : Nat} {tys : List (ClassId × FieldType)} {ws ws' : va_W} {H0 : Heap}
theorem y_put (hexec : p.tables.exec = Jvm.exec) (hb : c.code = cc) {own ref C : String} {T : u_T} {N ci index : Nat} {Ts : List Cond} (hts : ∀ w ∈ Ts, w.before args s = true) (hin : ∀ w ∈ u_ws C T N, w ∈ Ts) (ty0 : Nat → FieldType) (hty : ∀ k, k < N → parseFieldDescriptor (T k).2.2.1 = some (ty0 k)) (hnm : ∀ a, a < N → ∀ b, b < N → a ≠ b → (T a).2.1 ≠ (T b).2.1) (hown : s.vm.findClass own = some m.cls) (hK : va_K D cl tys s) (hP : va_P D cl ws H) (hD : va_D A ws) (hS0 : va_S A H0 H locs) (q0 : Nat) {fs : List Value} (he : ws[q0]? = some (a, .inr (ci, fs))) (hc : cl[ci]? = some (C, T, N)) (k : Nat) (hk : k < N) (hlink : (Cond.fieldLink own index ref (T k).2.1 (T k).2.2.1).before args s = true) (hsame : ∀ x, s.fieldFound? (T k).1 (T k).2.1 (T k).2.2.1 = some x → s.fieldFound? ref (T k).2.1 (T k).2.2.1 = some x) (hfin : (T k).2.2.2 = false) {ty : FieldType} {v : Value} (hd : parseFieldDescriptor (T k).2.2.1 = some ty) (hn : narrow ty v = v) (hfit : fits ty v = true) (hl : k < fs.length)
    (hdg : decode cc pc = .ok (.putfield index, 3)) (hw : ws.set q0 (a, .inr (ci, fs.set k v)) = ws') (kk : ∀ (H1 : Heap) (locs1 : List Loc), va_P D cl ws' H1 → va_D A ws' → va_S A H0 H1 locs1 → W p l e R s m args below meth c H1 locs1 cells slots Q (F0 m (pc + 3) ls rest)) : W p l e R s m args below meth c H locs cells slots Q (F0 m pc ls (v :: .ref a :: rest)) := by
  subst hw
  exact va_put hexec hb hts hin ty0 hty hnm hown hK hP hD hS0 q0 he hc k hk hlink hsame hfin hd hn hfit hl hdg kk
theorem y_putN (hexec : p.tables.exec = Jvm.exec) (hb : c.code = cc) {own ref C host : String} {T : u_T} {N ci index : Nat} {Ts : List Cond} (hts : ∀ w ∈ Ts, w.before args s = true) (hin : ∀ w ∈ u_ws C T N, w ∈ Ts) (ty0 : Nat → FieldType) (hty : ∀ k, k < N → parseFieldDescriptor (T k).2.2.1 = some (ty0 k)) (hnm : ∀ a, a < N → ∀ b, b < N → a ≠ b → (T a).2.1 ≠ (T b).2.1) (hown : s.vm.findClass own = some m.cls) (hK : va_K D cl tys s) (hP : va_P D cl ws H) (hD : va_D A ws) (hS0 : va_S A H0 H locs) (q0 : Nat) {fs : List Value} (he : ws[q0]? = some (a, .inr (ci, fs))) (hc : cl[ci]? = some (C, T, N)) (k : Nat) (hk : k < N) (hlink : (Cond.fieldLinkNest own index ref (T k).2.1 (T k).2.2.1 host).before args s = true) (hsame : ∀ x, s.fieldFound? (T k).1 (T k).2.1 (T k).2.2.1 = some x → s.fieldFound? ref (T k).2.1 (T k).2.2.1 = some x) (hfin : (T k).2.2.2 = false) {ty : FieldType} {v : Value} (hd : parseFieldDescriptor (T k).2.2.1 = some ty) (hn : narrow ty v = v) (hfit : fits ty v = true) (hl : k < fs.length)
    (hdg : decode cc pc = .ok (.putfield index, 3)) (hw : ws.set q0 (a, .inr (ci, fs.set k v)) = ws') (kk : ∀ (H1 : Heap) (locs1 : List Loc), va_P D cl ws' H1 → va_D A ws' → va_S A H0 H1 locs1 → W p l e R s m args below meth c H1 locs1 cells slots Q (F0 m (pc + 3) ls rest)) : W p l e R s m args below meth c H locs cells slots Q (F0 m pc ls (v :: .ref a :: rest)) := by
  subst hw
  exact va_putN hexec hb hts hin ty0 hty hnm hown hK hP hD hS0 q0 he hc k hk hlink hsame hfin hd hn hfit hl hdg kk
theorem y_iald (hexec : p.tables.exec = Jvm.exec) (hb : c.code = cc) (hK : va_K D cl tys s) (hP : va_P D cl ws H) (q0 t0 : Nat) {cA : ClassId} {n : Nat} {f : Nat → Int32} (ha : ws[q0]? = some (a, .inl (cA, n, .inl f))) (ht : tys[t0]? = some (cA, .int)) {i : Int32} (hin : vp_in i n) {v : Int32} (hv : f i.toNatClampNeg = v) (hdg : decode cc pc = .ok (.iaload, 1))
    (kk : W p l e R s m args below meth c H locs cells slots Q (F0 m (pc + 1) ls (.int v :: rest))) : W p l e R s m args below meth c H locs cells slots Q (F0 m pc ls (.int i :: .ref a :: rest)) := by
  subst hv
  exact va_iald hexec hb hK hP q0 t0 ha ht hin hdg kk
theorem y_bald (hexec : p.tables.exec = Jvm.exec) (hb : c.code = cc) (hK : va_K D cl tys s) (hP : va_P D cl ws H) (q0 t0 : Nat) {cA : ClassId} {n : Nat} {f : Nat → Int32} (ha : ws[q0]? = some (a, .inl (cA, n, .inl f))) (ht : tys[t0]? = some (cA, .byte)) {i : Int32} (hin : vp_in i n) {v : Int32} (hv : f i.toNatClampNeg = v) (hdg : decode cc pc = .ok (.baload, 1))
    (kk : W p l e R s m args below meth c H locs cells slots Q (F0 m (pc + 1) ls (.int v :: rest))) : W p l e R s m args below meth c H locs cells slots Q (F0 m pc ls (.int i :: .ref a :: rest)) := by
  subst hv
  exact va_bald hexec hb hK hP q0 t0 ha ht hin hdg kk
theorem y_lald (hexec : p.tables.exec = Jvm.exec) (hb : c.code = cc) (hK : va_K D cl tys s) (hP : va_P D cl ws H) (q0 t0 : Nat) {cA : ClassId} {n : Nat} {f : Nat → Int64} (ha : ws[q0]? = some (a, .inl (cA, n, .inr (.inl f)))) (ht : tys[t0]? = some (cA, .long)) {i : Int32} (hin : vp_in i n) {v : Int64} (hv : f i.toNatClampNeg = v) (hdg : decode cc pc = .ok (.laload, 1))
    (kk : W p l e R s m args below meth c H locs cells slots Q (F0 m (pc + 1) ls (.long v :: rest))) : W p l e R s m args below meth c H locs cells slots Q (F0 m pc ls (.int i :: .ref a :: rest)) := by
  subst hv
  exact va_lald hexec hb hK hP q0 t0 ha ht hin hdg kk
theorem y_iast (hexec : p.tables.exec = Jvm.exec) (hb : c.code = cc) (hK : va_K D cl tys s) (hP : va_P D cl ws H) (hD : va_D A ws) (hS : va_S A H0 H locs) (q0 t0 : Nat) {cA : ClassId} {n : Nat} {f : Nat → Int32} (ha : ws[q0]? = some (a, .inl (cA, n, .inl f))) (ht : tys[t0]? = some (cA, .int)) {i : Int32} {x : Int32} (hin : vp_in i n) (hdg : decode cc pc = .ok (.iastore, 1))
    (hw : ws.set q0 (a, .inl (cA, n, .inl (upd f i.toNatClampNeg x))) = ws')
    (kk : ∀ (H1 : Heap) (locs1 : List Loc), va_P D cl ws' H1 → va_D A ws' → va_S A H0 H1 locs1 → W p l e R s m args below meth c H1 locs1 cells slots Q (F0 m (pc + 1) ls rest)) : W p l e R s m args below meth c H locs cells slots Q (F0 m pc ls (.int x :: .int i :: .ref a :: rest)) := by
  subst hw
  exact va_iast hexec hb hK hP hD hS q0 t0 ha ht hin hdg kk
theorem y_bast (hexec : p.tables.exec = Jvm.exec) (hb : c.code = cc) (hK : va_K D cl tys s) (hP : va_P D cl ws H) (hD : va_D A ws) (hS : va_S A H0 H locs) (q0 t0 : Nat) {cA : ClassId} {n : Nat} {f : Nat → Int32} (ha : ws[q0]? = some (a, .inl (cA, n, .inl f))) (ht : tys[t0]? = some (cA, .byte)) {i : Int32} {x : Int32} (hin : vp_in i n) (hdg : decode cc pc = .ok (.bastore, 1))
    (hw : ws.set q0 (a, .inl (cA, n, .inl (upd f i.toNatClampNeg (vp_nar .byte x)))) = ws')
    (kk : ∀ (H1 : Heap) (locs1 : List Loc), va_P D cl ws' H1 → va_D A ws' → va_S A H0 H1 locs1 → W p l e R s m args below meth c H1 locs1 cells slots Q (F0 m (pc + 1) ls rest)) : W p l e R s m args below meth c H locs cells slots Q (F0 m pc ls (.int x :: .int i :: .ref a :: rest)) := by
  subst hw
  exact va_bast hexec hb hK hP hD hS q0 t0 ha ht hin hdg kk
theorem y_last (hexec : p.tables.exec = Jvm.exec) (hb : c.code = cc) (hK : va_K D cl tys s) (hP : va_P D cl ws H) (hD : va_D A ws) (hS : va_S A H0 H locs) (q0 t0 : Nat) {cA : ClassId} {n : Nat} {f : Nat → Int64} (ha : ws[q0]? = some (a, .inl (cA, n, .inr (.inl f)))) (ht : tys[t0]? = some (cA, .long)) {i : Int32} {x : Int64} (hin : vp_in i n) (hdg : decode cc pc = .ok (.lastore, 1))
    (hw : ws.set q0 (a, .inl (cA, n, .inr (.inl (vp_updL f i.toNatClampNeg x)))) = ws')
    (kk : ∀ (H1 : Heap) (locs1 : List Loc), va_P D cl ws' H1 → va_D A ws' → va_S A H0 H1 locs1 → W p l e R s m args below meth c H1 locs1 cells slots Q (F0 m (pc + 1) ls rest)) : W p l e R s m args below meth c H locs cells slots Q (F0 m pc ls (.long x :: .int i :: .ref a :: rest)) := by
  subst hw
  exact va_last hexec hb hK hP hD hS q0 t0 ha ht hin hdg kk
theorem y_ishl (hexec : p.tables.exec = Jvm.exec) (hb : c.code = cc) {x y : Int32} (hdg : decode cc pc = .ok (.ishl, 1)) (k : W p l e R s m args below meth c H locs cells slots Q (F0 m (pc + 1) ls (.int (shl x y) :: rest))) : W p l e R s m args below meth c H locs cells slots Q (F0 m pc ls (.int y :: .int x :: rest)) := lv_ishl hexec hb hdg k
theorem y_ishr (hexec : p.tables.exec = Jvm.exec) (hb : c.code = cc) {x y : Int32} (hdg : decode cc pc = .ok (.ishr, 1)) (k : W p l e R s m args below meth c H locs cells slots Q (F0 m (pc + 1) ls (.int (shr x y) :: rest))) : W p l e R s m args below meth c H locs cells slots Q (F0 m pc ls (.int y :: .int x :: rest)) := lv_ishr hexec hb hdg k
end Rows2
end
section
theorem k_0 : (.fieldLink R_Clint 9 "TwinHart$Clint" "words" "[I" : Cond) ∈ tb := tb_m 44 (by decide +kernel) rfl
theorem k_1 : (.fieldLink R_Memory 28 "TwinHart$Memory" "claims" "[J" : Cond) ∈ tb := tb_m 60 (by decide +kernel) rfl
theorem k_2 : (.constantLong R_Memory 26 (-1) : Cond) ∈ tb := tb_m 50 (by decide +kernel) rfl
theorem k_3 : (.fieldLink R_Memory 12 "TwinHart$Memory" "clint" "LTwinHart$Clint;" : Cond) ∈ tb := tb_m 53 (by decide +kernel) rfl
theorem k_4 : (.methodLink R_Memory 36 y_Clint_restart : Cond) ∈ tb := tb_m 181 (by decide +kernel) rfl
theorem k_5 : (.methodLink R_Memory 39 y_Memory_dropClaims : Cond) ∈ tb := tb_m 182 (by decide +kernel) rfl
theorem k_6 : (.fieldLink R_Csrs 15 "TwinHart$Csrs" "mstatus" "I" : Cond) ∈ tb := tb_m 89 (by decide +kernel) rfl
theorem k_7 : (.fieldLink R_Csrs 18 "TwinHart$Csrs" "medeleg" "I" : Cond) ∈ tb := tb_m 91 (by decide +kernel) rfl
theorem k_8 : (.fieldLink R_Csrs 21 "TwinHart$Csrs" "mideleg" "I" : Cond) ∈ tb := tb_m 92 (by decide +kernel) rfl
theorem k_9 : (.fieldLink R_Csrs 24 "TwinHart$Csrs" "mie" "I" : Cond) ∈ tb := tb_m 93 (by decide +kernel) rfl
theorem k_10 : (.fieldLink R_Csrs 27 "TwinHart$Csrs" "mtvec" "I" : Cond) ∈ tb := tb_m 94 (by decide +kernel) rfl
theorem k_11 : (.fieldLink R_Csrs 30 "TwinHart$Csrs" "mepc" "I" : Cond) ∈ tb := tb_m 95 (by decide +kernel) rfl
theorem k_12 : (.fieldLink R_Csrs 33 "TwinHart$Csrs" "mscratch" "I" : Cond) ∈ tb := tb_m 97 (by decide +kernel) rfl
theorem k_13 : (.fieldLink R_Csrs 36 "TwinHart$Csrs" "mcause" "I" : Cond) ∈ tb := tb_m 98 (by decide +kernel) rfl
theorem k_14 : (.fieldLink R_Csrs 39 "TwinHart$Csrs" "mtval" "I" : Cond) ∈ tb := tb_m 99 (by decide +kernel) rfl
theorem k_15 : (.fieldLink R_Csrs 42 "TwinHart$Csrs" "mip" "I" : Cond) ∈ tb := tb_m 100 (by decide +kernel) rfl
theorem k_16 : (.fieldLink R_Csrs 45 "TwinHart$Csrs" "stvec" "I" : Cond) ∈ tb := tb_m 101 (by decide +kernel) rfl
theorem k_17 : (.fieldLink R_Csrs 48 "TwinHart$Csrs" "sepc" "I" : Cond) ∈ tb := tb_m 102 (by decide +kernel) rfl
theorem k_18 : (.fieldLink R_Csrs 51 "TwinHart$Csrs" "sscratch" "I" : Cond) ∈ tb := tb_m 104 (by decide +kernel) rfl
theorem k_19 : (.fieldLink R_Csrs 54 "TwinHart$Csrs" "scause" "I" : Cond) ∈ tb := tb_m 105 (by decide +kernel) rfl
theorem k_20 : (.fieldLink R_Csrs 57 "TwinHart$Csrs" "stval" "I" : Cond) ∈ tb := tb_m 106 (by decide +kernel) rfl
theorem k_21 : (.fieldLink R_Csrs 60 "TwinHart$Csrs" "satp" "I" : Cond) ∈ tb := tb_m 107 (by decide +kernel) rfl
theorem k_22 : (.fieldLink R_Hart 9 "TwinHart$Hart" "x" "[I" : Cond) ∈ tb := tb_m 144 (by decide +kernel) rfl
theorem k_23 : (.fieldLink R_Hart 34 "TwinHart$Hart" "csrs" "LTwinHart$Csrs;" : Cond) ∈ tb := tb_m 146 (by decide +kernel) rfl
theorem k_24 : (.methodLink R_Hart 38 y_Csrs_restart : Cond) ∈ tb := tb_m 190 (by decide +kernel) rfl
theorem k_25 : (.constant R_Hart 15 (-2147483648) : Cond) ∈ tb := tb_m 81 (by decide +kernel) rfl
theorem k_26 : (.fieldLink R_Hart 16 "TwinHart$Hart" "pc" "I" : Cond) ∈ tb := tb_m 148 (by decide +kernel) rfl
theorem k_27 : (.fieldLink R_Hart 20 "TwinHart$Hart" "level" "I" : Cond) ∈ tb := tb_m 150 (by decide +kernel) rfl
theorem k_28 : (.fieldLink R_Memory 32 "TwinHart$Memory" "ram" "[I" : Cond) ∈ tb := tb_m 51 (by decide +kernel) rfl
theorem k_29 : (.constant R_Alu 9 (-2147483648) : Cond) ∈ tb := tb_m 228 (by decide +kernel) rfl
theorem k_30 : (.methodLink R_Clint 22 y_Alu_below : Cond) ∈ tb := tb_m 225 (by decide +kernel) rfl
theorem k_31 : (.methodLink R_Clint 18 y_Clint_isBelow : Cond) ∈ tb := tb_m 221 (by decide +kernel) rfl
theorem k_32 : (.fieldLink R_Csrs 96 "TwinHart$Csrs" "INTERRUPT_ORDER" "[I" : Cond) ∈ tb := tb_m 240 (by decide +kernel) rfl
theorem k_33 : (.methodLink R_Csrs 93 y_Csrs_firstOf : Cond) ∈ tb := tb_m 237 (by decide +kernel) rfl
theorem k_34 : (.methodLink R_Csrs 90 y_Csrs_has : Cond) ∈ tb := tb_m 233 (by decide +kernel) rfl
theorem k_35 : (.methodLink R_Hart 160 y_Csrs_enterMachine : Cond) ∈ tb := tb_m 254 (by decide +kernel) rfl
theorem k_36 : (.methodLink R_Hart 156 y_Csrs_enterSupervisor : Cond) ∈ tb := tb_m 250 (by decide +kernel) rfl
theorem k_37 : (.constantLong R_Fault 7 (-1) : Cond) ∈ tb := tb_m 267 (by decide +kernel) rfl
theorem k_38 : (.constant R_Csrs 106 131072 : Cond) ∈ tb := tb_m 272 (by decide +kernel) rfl
theorem k_39 : (.methodLink R_Csrs 101 y_Csrs_levelBefore : Cond) ∈ tb := tb_m 273 (by decide +kernel) rfl
theorem k_40 : (.constant R_Csrs 107 4194303 : Cond) ∈ tb := tb_m 289 (by decide +kernel) rfl
theorem k_41 : (.constantLong R_Pages 59 4 : Cond) ∈ tb := tb_m 293 (by decide +kernel) rfl
theorem k_42 : (.constantLong R_Memory 42 2147483648 : Cond) ∈ tb := tb_m 298 (by decide +kernel) rfl
theorem k_43 : (.constantLong R_Memory 44 4 : Cond) ∈ tb := tb_m 299 (by decide +kernel) rfl
theorem k_44 : (.methodLink R_Memory 65 y_Memory_indexOf : Cond) ∈ tb := tb_m 305 (by decide +kernel) rfl
theorem k_45 : (.fieldLink R_Pages 61 "TwinHart$Access" "FETCH" "LTwinHart$Access;" : Cond) ∈ tb := tb_m 314 (by decide +kernel) rfl
theorem k_46 : (.fieldLink R_Pages 66 "TwinHart$Access" "stores" "Z" : Cond) ∈ tb := tb_m 941 (by decide +kernel) rfl
theorem k_47 : (.constant R_Pages 70 524288 : Cond) ∈ tb := tb_m 316 (by decide +kernel) rfl
theorem k_48 : (.constant R_Pages 65 262144 : Cond) ∈ tb := tb_m 315 (by decide +kernel) rfl
theorem k_49 : (.methodLink R_Pages 11 y_Csrs_rootPage : Cond) ∈ tb := tb_m 285 (by decide +kernel) rfl
theorem k_50 : (.methodLink R_Pages 17 y_Pages_entryPlace : Cond) ∈ tb := tb_m 290 (by decide +kernel) rfl
theorem k_51 : (.methodLink R_Pages 21 y_Memory_isRam : Cond) ∈ tb := tb_m 294 (by decide +kernel) rfl
theorem k_52 : (.methodLink R_Pages 39 y_Memory_wordAt : Cond) ∈ tb := tb_m 301 (by decide +kernel) rfl
theorem k_53 : (.methodLink R_Pages 46 y_Pages_isPage : Cond) ∈ tb := tb_m 308 (by decide +kernel) rfl
theorem k_54 : (.fieldLink R_Pages 43 "TwinHart$Access" "pageFault" "I" : Cond) ∈ tb := tb_m 940 (by decide +kernel) rfl
theorem k_55 : (.methodLink R_Pages 33 y_Fault_of : Cond) ∈ tb := tb_m 300 (by decide +kernel) rfl
theorem k_56 : (.methodLink R_Pages 53 y_Pages_admits : Cond) ∈ tb := tb_m 311 (by decide +kernel) rfl
theorem k_57 : (.constantLong R_Pages 57 4294967295 : Cond) ∈ tb := tb_m 317 (by decide +kernel) rfl
theorem k_58 : (.fieldLink R_Pages 27 "TwinHart$Access" "accessFault" "I" : Cond) ∈ tb := tb_m 939 (by decide +kernel) rfl
theorem k_59 : (.constantLong R_Clint 27 33554432 : Cond) ∈ tb := tb_m 326 (by decide +kernel) rfl
theorem k_60 : (.constantLong R_Clint 31 33570816 : Cond) ∈ tb := tb_m 328 (by decide +kernel) rfl
theorem k_61 : (.constantLong R_Clint 35 33603576 : Cond) ∈ tb := tb_m 330 (by decide +kernel) rfl
theorem k_62 : (.constantLong R_Clint 37 33603584 : Cond) ∈ tb := tb_m 331 (by decide +kernel) rfl
theorem k_63 : (.constantLong R_Clint 33 33570832 : Cond) ∈ tb := tb_m 329 (by decide +kernel) rfl
theorem k_64 : (.constantLong R_Clint 29 33554440 : Cond) ∈ tb := tb_m 327 (by decide +kernel) rfl
theorem k_65 : (.methodLink R_Memory 46 y_Memory_isRam : Cond) ∈ tb := tb_m 322 (by decide +kernel) rfl
theorem k_66 : (.fieldLink R_Memory 50 "TwinHart$Access" "ramAlone" "Z" : Cond) ∈ tb := tb_m 942 (by decide +kernel) rfl
theorem k_67 : (.fieldLink R_Memory 60 "TwinHart$Access" "stores" "Z" : Cond) ∈ tb := tb_m 943 (by decide +kernel) rfl
theorem k_68 : (.constantLong R_Memory 63 268435456 : Cond) ∈ tb := tb_m 332 (by decide +kernel) rfl
theorem k_69 : (.methodLink R_Memory 56 y_Clint_slotAt : Cond) ∈ tb := tb_m 323 (by decide +kernel) rfl
theorem k_70 : (.fieldLink R_Hart 65 "TwinHart$Access" "FETCH" "LTwinHart$Access;" : Cond) ∈ tb := tb_m 258 (by decide +kernel) rfl
theorem k_71 : (.methodLink R_Hart 170 y_Csrs_dataLevel : Cond) ∈ tb := tb_m 268 (by decide +kernel) rfl
theorem k_72 : (.constantLong R_Hart 173 4294967295 : Cond) ∈ tb := tb_m 277 (by decide +kernel) rfl
theorem k_73 : (.methodLink R_Hart 185 y_Memory_allows : Cond) ∈ tb := tb_m 318 (by decide +kernel) rfl
theorem k_74 : (.fieldLink R_Hart 189 "TwinHart$Access" "accessFault" "I" : Cond) ∈ tb := tb_m 944 (by decide +kernel) rfl
theorem k_75 : (.methodLink R_Hart 166 y_Fault_of : Cond) ∈ tb := tb_m 264 (by decide +kernel) rfl
theorem k_76 : (.methodLink R_Hart 175 y_Csrs_hasPages : Cond) ∈ tb := tb_m 278 (by decide +kernel) rfl
theorem k_77 : (.methodLink R_Hart 179 y_Pages_placeOf : Cond) ∈ tb := tb_m 282 (by decide +kernel) rfl
theorem k_78 : (.fieldLink R_Hart 163 "TwinHart$Access" "misaligned" "I" : Cond) ∈ tb := tb_m 938 (by decide +kernel) rfl
theorem k_79 : (.fieldLink R_Hart 23 "TwinHart$Hart" "trapValue" "I" : Cond) ∈ tb := tb_m 152 (by decide +kernel) rfl
theorem k_80 : (.methodLink R_Hart 151 y_Fault_causeOf : Cond) ∈ tb := tb_m 337 (by decide +kernel) rfl
theorem k_81 : (.methodLink R_Hart 148 y_Hart_trap : Cond) ∈ tb := tb_m 340 (by decide +kernel) rfl
theorem k_82 : (.constantLong R_Memory 89 3 : Cond) ∈ tb := tb_m 375 (by decide +kernel) rfl
theorem k_83 : (.methodLink R_Memory 68 y_Memory_shiftOf : Cond) ∈ tb := tb_m 372 (by decide +kernel) rfl
theorem k_84 : (.methodLink R_Memory 71 y_Memory_maskOf : Cond) ∈ tb := tb_m 376 (by decide +kernel) rfl
theorem k_85 : (.methodLink R_Hart 141 y_Field_rd : Cond) ∈ tb := tb_m 383 (by decide +kernel) rfl
theorem k_86 : (.methodLink R_Hart 144 y_Hart_write : Cond) ∈ tb := tb_m 386 (by decide +kernel) rfl
theorem k_87 : (.methodLink R_Hart 93 y_Hart_goOn : Cond) ∈ tb := tb_m 390 (by decide +kernel) rfl
theorem k_88 : (.methodLink R_Hart 129 y_Field_f3 : Cond) ∈ tb := tb_m 353 (by decide +kernel) rfl
theorem k_89 : (.methodLink R_Hart 138 y_Hart_illegal : Cond) ∈ tb := tb_m 356 (by decide +kernel) rfl
theorem k_90 : (.methodLink R_Hart 192 y_Field_rs1 : Cond) ∈ tb := tb_m 360 (by decide +kernel) rfl
theorem k_91 : (.methodLink R_Hart 195 y_Field_immediate : Cond) ∈ tb := tb_m 363 (by decide +kernel) rfl
theorem k_92 : (.fieldLink R_Hart 210 "TwinHart$Access" "LOAD" "LTwinHart$Access;" : Cond) ∈ tb := tb_m 366 (by decide +kernel) rfl
theorem k_93 : (.methodLink R_Hart 71 y_Hart_locate : Cond) ∈ tb := tb_m 260 (by decide +kernel) rfl
theorem k_94 : (.methodLink R_Hart 213 y_Memory_load : Cond) ∈ tb := tb_m 368 (by decide +kernel) rfl
theorem k_95 : (.methodLink R_Hart 105 y_Hart_finish : Cond) ∈ tb := tb_m 379 (by decide +kernel) rfl
theorem k_96 : (.methodLink R_Hart 75 y_Hart_fault : Cond) ∈ tb := tb_m 333 (by decide +kernel) rfl
theorem k_97 : (.methodLink R_Alu 10 y_Alu_below : Cond) ∈ tb := tb_m 407 (by decide +kernel) rfl
theorem k_98 : (.methodLink R_Hart 224 y_Field_f7 : Cond) ∈ tb := tb_m 398 (by decide +kernel) rfl
theorem k_99 : (.methodLink R_Hart 227 y_Alu_plain : Cond) ∈ tb := tb_m 404 (by decide +kernel) rfl
theorem k_100 : (.methodLink R_Hart 198 y_Field_rs2 : Cond) ∈ tb := tb_m 401 (by decide +kernel) rfl
theorem k_101 : (.methodLink R_Field 7 y_Field_rd : Cond) ∈ tb := tb_m 418 (by decide +kernel) rfl
theorem k_102 : (.fieldLink R_Memory 22 "TwinHart$Memory" "printed" "I" : Cond) ∈ tb := tb_m 58 (by decide +kernel) rfl
theorem k_103 : (.fieldLink R_Memory 18 "TwinHart$Memory" "console" "[B" : Cond) ∈ tb := tb_m 56 (by decide +kernel) rfl
theorem k_104 : (.methodLink R_Clint 39 y_Clint_slotAt : Cond) ∈ tb := tb_m 433 (by decide +kernel) rfl
theorem k_105 : (.methodLink R_Memory 82 y_Clint_store : Cond) ∈ tb := tb_m 429 (by decide +kernel) rfl
theorem k_106 : (.methodLink R_Memory 78 y_Memory_print : Cond) ∈ tb := tb_m 425 (by decide +kernel) rfl
theorem k_107 : (.methodLink R_Hart 215 y_Field_storeOffset : Cond) ∈ tb := tb_m 415 (by decide +kernel) rfl
theorem k_108 : (.fieldLink R_Hart 218 "TwinHart$Access" "STORE" "LTwinHart$Access;" : Cond) ∈ tb := tb_m 419 (by decide +kernel) rfl
theorem k_109 : (.methodLink R_Hart 221 y_Memory_store : Cond) ∈ tb := tb_m 421 (by decide +kernel) rfl
theorem k_110 : (.methodLink R_Memory 86 y_Memory_store : Cond) ∈ tb := tb_m 449 (by decide +kernel) rfl
theorem k_111 : (.methodLink R_Alu 18 Lib.Math.min.name : Cond) ∈ tb := tb_m 457 (by decide +kernel) rfl
theorem k_112 : (.static Lib.Math.min.name : Cond) ∈ tb := tb_m 25 (by decide +kernel) rfl
theorem k_113 : (.initialized "java/lang/Math" : Cond) ∈ tb := tb_m 3 (by decide +kernel) rfl
theorem k_114 : (.code Lib.Math.min.name Lib.Math.min.code 2 (some .int) : Cond) ∈ tb := tb_m 26 (by decide +kernel) rfl
theorem k_115 : (.methodLink R_Alu 24 Lib.Math.max.name : Cond) ∈ tb := tb_m 458 (by decide +kernel) rfl
theorem k_116 : (.static Lib.Math.max.name : Cond) ∈ tb := tb_m 28 (by decide +kernel) rfl
theorem k_117 : (.code Lib.Math.max.name Lib.Math.max.code 2 (some .int) : Cond) ∈ tb := tb_m 29 (by decide +kernel) rfl
theorem k_118 : (.methodLink R_Hart 237 y_Hart_isChange : Cond) ∈ tb := tb_m 438 (by decide +kernel) rfl
theorem k_119 : (.fieldLink R_Hart 244 "TwinHart$Access" "CHANGE" "LTwinHart$Access;" : Cond) ∈ tb := tb_m 443 (by decide +kernel) rfl
theorem k_120 : (.methodLink R_Hart 255 y_Alu_changed : Cond) ∈ tb := tb_m 454 (by decide +kernel) rfl
theorem k_121 : (.fieldLink R_Hart 26 "TwinHart$Hart" "id" "I" : Cond) ∈ tb := tb_m 143 (by decide +kernel) rfl
theorem k_122 : (.methodLink R_Hart 247 y_Memory_storeIfClaimed : Cond) ∈ tb := tb_m 445 (by decide +kernel) rfl
theorem k_123 : (.fieldLink R_Hart 241 "TwinHart$Access" "CLAIM" "LTwinHart$Access;" : Cond) ∈ tb := tb_m 441 (by decide +kernel) rfl
theorem k_124 : (.methodLink R_Hart 251 y_Memory_claim : Cond) ∈ tb := tb_m 450 (by decide +kernel) rfl
theorem k_125 : (.constantLong R_Alu 16 4294967295 : Cond) ∈ tb := tb_m 466 (by decide +kernel) rfl
theorem k_126 : (.methodLink R_Hart 234 y_Alu_divided : Cond) ∈ tb := tb_m 467 (by decide +kernel) rfl
theorem k_127 : (.methodLink R_Hart 231 y_Alu_multiplied : Cond) ∈ tb := tb_m 463 (by decide +kernel) rfl
theorem k_128 : (.methodLink R_Hart 201 y_Alu_branches : Cond) ∈ tb := tb_m 474 (by decide +kernel) rfl
theorem k_129 : (.methodLink R_Hart 207 y_Field_branchOffset : Cond) ∈ tb := tb_m 477 (by decide +kernel) rfl
theorem k_130 : (.methodLink R_Hart 126 y_Hart_jump : Cond) ∈ tb := tb_m 484 (by decide +kernel) rfl
theorem k_131 : (.constant R_Field 13 1044480 : Cond) ∈ tb := tb_m 491 (by decide +kernel) rfl
theorem k_132 : (.constant R_Csrs 105 137224 : Cond) ∈ tb := tb_m 504 (by decide +kernel) rfl
theorem k_133 : (.methodLink R_Hart 264 y_Csrs_leaveMachine : Cond) ∈ tb := tb_m 500 (by decide +kernel) rfl
theorem k_134 : (.constant R_Csrs 100 (-131331) : Cond) ∈ tb := tb_m 513 (by decide +kernel) rfl
theorem k_135 : (.methodLink R_Hart 270 y_Csrs_leaveSupervisor : Cond) ∈ tb := tb_m 509 (by decide +kernel) rfl
theorem k_136 : (.methodLink R_Hart 261 y_Hart_returnFromSupervisor : Cond) ∈ tb := tb_m 505 (by decide +kernel) rfl
theorem k_137 : (.methodLink R_Hart 258 y_Hart_returnFromMachine : Cond) ∈ tb := tb_m 496 (by decide +kernel) rfl
theorem k_138 : (.methodLink R_Csrs 63 y_Csrs_isTold : Cond) ∈ tb := tb_m 521 (by decide +kernel) rfl
theorem k_139 : (.methodLink R_Csrs 67 y_Csrs_isReadOnly : Cond) ∈ tb := tb_m 524 (by decide +kernel) rfl
theorem k_140 : (.constant R_Csrs 70 786722 : Cond) ∈ tb := tb_m 531 (by decide +kernel) rfl
theorem k_141 : (.constant R_Csrs 71 1075056897 : Cond) ∈ tb := tb_m 532 (by decide +kernel) rfl
theorem k_142 : (.fieldLink R_Csrs 11 "TwinHart$Csrs" "hart" "I" : Cond) ∈ tb := tb_m 88 (by decide +kernel) rfl
theorem k_143 : (.methodLink R_Csrs 79 y_Csrs_merged : Cond) ∈ tb := tb_m 544 (by decide +kernel) rfl
theorem k_144 : (.constant R_Csrs 83 (-2143289345) : Cond) ∈ tb := tb_m 547 (by decide +kernel) rfl
theorem k_145 : (.constant R_Csrs 84 924074 : Cond) ∈ tb := tb_m 552 (by decide +kernel) rfl
theorem k_146 : (.methodLink R_Csrs 85 y_Csrs_withoutLevelTwo : Cond) ∈ tb := tb_m 553 (by decide +kernel) rfl
theorem k_147 : (.constant R_Csrs 89 46079 : Cond) ∈ tb := tb_m 556 (by decide +kernel) rfl
theorem k_148 : (.methodLink R_Csrs 76 y_Csrs_writeMachine : Cond) ∈ tb := tb_m 548 (by decide +kernel) rfl
theorem k_149 : (.methodLink R_Csrs 72 y_Csrs_writeSupervisor : Cond) ∈ tb := tb_m 540 (by decide +kernel) rfl
theorem k_150 : (.methodLink R_Hart 276 y_Csrs_isAllowed : Cond) ∈ tb := tb_m 518 (by decide +kernel) rfl
theorem k_151 : (.fieldLink R_Hart 41 "TwinHart$Memory" "clint" "LTwinHart$Clint;" : Cond) ∈ tb := tb_m 54 (by decide +kernel) rfl
theorem k_152 : (.methodLink R_Hart 47 y_Clint_lines : Cond) ∈ tb := tb_m 217 (by decide +kernel) rfl
theorem k_153 : (.methodLink R_Hart 280 y_Csrs_read : Cond) ∈ tb := tb_m 527 (by decide +kernel) rfl
theorem k_154 : (.methodLink R_Hart 283 y_Hart_mixed : Cond) ∈ tb := tb_m 533 (by decide +kernel) rfl
theorem k_155 : (.methodLink R_Hart 286 y_Csrs_write : Cond) ∈ tb := tb_m 536 (by decide +kernel) rfl
theorem k_156 : (.methodLink R_Hart 90 y_Hart_load : Cond) ∈ tb := tb_m 349 (by decide +kernel) rfl
theorem k_157 : (.methodLink R_Hart 97 y_Hart_computeWithImmediate : Cond) ∈ tb := tb_m 394 (by decide +kernel) rfl
theorem k_158 : (.methodLink R_Hart 100 y_Field_upper : Cond) ∈ tb := tb_m 408 (by decide +kernel) rfl
theorem k_159 : (.methodLink R_Hart 108 y_Hart_store : Cond) ∈ tb := tb_m 411 (by decide +kernel) rfl
theorem k_160 : (.methodLink R_Hart 111 y_Hart_changeAtOnce : Cond) ∈ tb := tb_m 434 (by decide +kernel) rfl
theorem k_161 : (.methodLink R_Hart 114 y_Hart_compute : Cond) ∈ tb := tb_m 459 (by decide +kernel) rfl
theorem k_162 : (.methodLink R_Hart 117 y_Hart_branch : Cond) ∈ tb := tb_m 470 (by decide +kernel) rfl
theorem k_163 : (.methodLink R_Hart 120 y_Hart_jumpByRegister : Cond) ∈ tb := tb_m 480 (by decide +kernel) rfl
theorem k_164 : (.methodLink R_Hart 123 y_Field_jumpOffset : Cond) ∈ tb := tb_m 488 (by decide +kernel) rfl
theorem k_165 : (.methodLink R_Hart 135 y_Hart_exchange : Cond) ∈ tb := tb_m 514 (by decide +kernel) rfl
theorem k_166 : (.methodLink R_Hart 132 y_Hart_callSystem : Cond) ∈ tb := tb_m 492 (by decide +kernel) rfl
theorem k_167 : (.methodLink R_Hart 53 y_Csrs_dueInterrupt : Cond) ∈ tb := tb_m 229 (by decide +kernel) rfl
theorem k_168 : (.methodLink R_Hart 79 y_Memory_wordAt : Cond) ∈ tb := tb_m 344 (by decide +kernel) rfl
theorem k_169 : (.methodLink R_Hart 83 y_Hart_execute : Cond) ∈ tb := tb_m 345 (by decide +kernel) rfl
theorem k_170 : (.methodLink R_Hart 61 y_Hart_take : Cond) ∈ tb := tb_m 246 (by decide +kernel) rfl
theorem k_171 : (.methodLink R_Hart 87 y_Csrs_handsDownTrap : Cond) ∈ tb := tb_m 557 (by decide +kernel) rfl
theorem k_172 : (.methodLink R_Hart 57 y_Csrs_handsDownInterrupt : Cond) ∈ tb := tb_m 242 (by decide +kernel) rfl
theorem kn_0 : (.fieldLinkNest R_Pages 50 "TwinHart$Csrs" "mstatus" "I" "TwinHart" : Cond) ∈ lw_tbl := List.mem_append_right _ (List.mem_of_getElem? (i := 90) (by decide +kernel))
theorem kn_1 : (.fieldLinkNest R_Memory 75 "TwinHart$Clint" "words" "[I" "TwinHart" : Cond) ∈ lw_tbl := List.mem_append_right _ (List.mem_of_getElem? (i := 45) (by decide +kernel))
theorem kn_2 : (.fieldLinkNest R_Hart 267 "TwinHart$Csrs" "mepc" "I" "TwinHart" : Cond) ∈ lw_tbl := List.mem_append_right _ (List.mem_of_getElem? (i := 96) (by decide +kernel))
theorem kn_3 : (.fieldLinkNest R_Hart 273 "TwinHart$Csrs" "sepc" "I" "TwinHart" : Cond) ∈ lw_tbl := List.mem_append_right _ (List.mem_of_getElem? (i := 103) (by decide +kernel))
theorem mw_Clint_restart : MW y_Clint_restart b_Clint_restart 2 none 0 := ⟨tb_m 43 (by decide +kernel) rfl, tb_m 4 (by decide +kernel) rfl, by decide +kernel, by decide +kernel, by decide +kernel⟩
theorem mv_Clint_restart : MWV y_Clint_restart := ⟨tb_m 41 (by decide +kernel) rfl, tb_m 42 (by decide +kernel) rfl⟩
theorem mw_Memory_dropClaims : MW y_Memory_dropClaims b_Memory_dropClaims 1 none 0 := ⟨tb_m 185 (by decide +kernel) rfl, tb_m 2 (by decide +kernel) rfl, by decide +kernel, by decide +kernel, by decide +kernel⟩
theorem mv_Memory_dropClaims : MWV y_Memory_dropClaims := ⟨tb_m 183 (by decide +kernel) rfl, tb_m 184 (by decide +kernel) rfl⟩
theorem mw_Memory_restart : MW y_Memory_restart b_Memory_restart 1 none 0 := ⟨tb_m 180 (by decide +kernel) rfl, tb_m 2 (by decide +kernel) rfl, by decide +kernel, by decide +kernel, by decide +kernel⟩
theorem mv_Memory_restart : MWV y_Memory_restart := ⟨tb_m 178 (by decide +kernel) rfl, tb_m 179 (by decide +kernel) rfl⟩
theorem mw_Csrs_restart : MW y_Csrs_restart b_Csrs_restart 1 none 0 := ⟨tb_m 193 (by decide +kernel) rfl, tb_m 6 (by decide +kernel) rfl, by decide +kernel, by decide +kernel, by decide +kernel⟩
theorem mv_Csrs_restart : MWV y_Csrs_restart := ⟨tb_m 191 (by decide +kernel) rfl, tb_m 192 (by decide +kernel) rfl⟩
theorem mw_Hart_restart : MW y_Hart_restart b_Hart_restart 2 none 0 := ⟨tb_m 189 (by decide +kernel) rfl, tb_m 5 (by decide +kernel) rfl, by decide +kernel, by decide +kernel, by decide +kernel⟩
theorem mv_Hart_restart : MWV y_Hart_restart := ⟨tb_m 187 (by decide +kernel) rfl, tb_m 188 (by decide +kernel) rfl⟩
theorem mw_Memory_hasWord : MW y_Memory_hasWord b_Memory_hasWord 2 (some .boolean) 1 := ⟨tb_m 201 (by decide +kernel) rfl, tb_m 2 (by decide +kernel) rfl, by decide +kernel, by decide +kernel, by decide +kernel⟩
theorem mv_Memory_hasWord : MWV y_Memory_hasWord := ⟨tb_m 199 (by decide +kernel) rfl, tb_m 200 (by decide +kernel) rfl⟩
theorem mw_Alu_below : MW y_Alu_below b_Alu_below 2 (some .boolean) 2 := ⟨tb_m 227 (by decide +kernel) rfl, tb_m 8 (by decide +kernel) rfl, by decide +kernel, by decide +kernel, by decide +kernel⟩
theorem ms_Alu_below : MWS y_Alu_below := tb_m 226 (by decide +kernel) rfl
theorem mw_Clint_isBelow : MW y_Clint_isBelow b_Clint_isBelow 3 (some .boolean) 2 := ⟨tb_m 224 (by decide +kernel) rfl, tb_m 4 (by decide +kernel) rfl, by decide +kernel, by decide +kernel, by decide +kernel⟩
theorem mv_Clint_isBelow : MWV y_Clint_isBelow := ⟨tb_m 223 (by decide +kernel) rfl, tb_p 0 (by decide +kernel) rfl⟩
theorem mw_Clint_lines : MW y_Clint_lines b_Clint_lines 4 (some .int) 1 := ⟨tb_m 220 (by decide +kernel) rfl, tb_m 4 (by decide +kernel) rfl, by decide +kernel, by decide +kernel, by decide +kernel⟩
theorem mv_Clint_lines : MWV y_Clint_lines := ⟨tb_m 218 (by decide +kernel) rfl, tb_m 219 (by decide +kernel) rfl⟩
theorem mw_Csrs_has : MW y_Csrs_has b_Csrs_has 2 (some .boolean) 1 := ⟨tb_m 236 (by decide +kernel) rfl, tb_m 6 (by decide +kernel) rfl, by decide +kernel, by decide +kernel, by decide +kernel⟩
theorem mv_Csrs_has : MWV y_Csrs_has := ⟨tb_m 235 (by decide +kernel) rfl, tb_p 1 (by decide +kernel) rfl⟩
theorem mw_Csrs_firstOf : MW y_Csrs_firstOf b_Csrs_firstOf 2 (some .int) 1 := ⟨tb_m 239 (by decide +kernel) rfl, tb_m 6 (by decide +kernel) rfl, by decide +kernel, by decide +kernel, by decide +kernel⟩
theorem ms_Csrs_firstOf : MWS y_Csrs_firstOf := tb_m 238 (by decide +kernel) rfl
theorem mw_Csrs_dueInterrupt : MW y_Csrs_dueInterrupt b_Csrs_dueInterrupt 6 (some .int) 2 := ⟨tb_m 232 (by decide +kernel) rfl, tb_m 6 (by decide +kernel) rfl, by decide +kernel, by decide +kernel, by decide +kernel⟩
theorem mv_Csrs_dueInterrupt : MWV y_Csrs_dueInterrupt := ⟨tb_m 230 (by decide +kernel) rfl, tb_m 231 (by decide +kernel) rfl⟩
theorem mw_Csrs_handsDownInterrupt : MW y_Csrs_handsDownInterrupt b_Csrs_handsDownInterrupt 2 (some .boolean) 1 := ⟨tb_m 245 (by decide +kernel) rfl, tb_m 6 (by decide +kernel) rfl, by decide +kernel, by decide +kernel, by decide +kernel⟩
theorem mv_Csrs_handsDownInterrupt : MWV y_Csrs_handsDownInterrupt := ⟨tb_m 243 (by decide +kernel) rfl, tb_m 244 (by decide +kernel) rfl⟩
theorem mw_Csrs_enterSupervisor : MW y_Csrs_enterSupervisor b_Csrs_enterSupervisor 7 (some .int) 4 := ⟨tb_m 253 (by decide +kernel) rfl, tb_m 6 (by decide +kernel) rfl, by decide +kernel, by decide +kernel, by decide +kernel⟩
theorem mv_Csrs_enterSupervisor : MWV y_Csrs_enterSupervisor := ⟨tb_m 251 (by decide +kernel) rfl, tb_m 252 (by decide +kernel) rfl⟩
theorem mw_Csrs_enterMachine : MW y_Csrs_enterMachine b_Csrs_enterMachine 6 (some .int) 4 := ⟨tb_m 257 (by decide +kernel) rfl, tb_m 6 (by decide +kernel) rfl, by decide +kernel, by decide +kernel, by decide +kernel⟩
theorem mv_Csrs_enterMachine : MWV y_Csrs_enterMachine := ⟨tb_m 255 (by decide +kernel) rfl, tb_m 256 (by decide +kernel) rfl⟩
theorem mw_Hart_take : MW y_Hart_take b_Hart_take 4 none 3 := ⟨tb_m 249 (by decide +kernel) rfl, tb_m 5 (by decide +kernel) rfl, by decide +kernel, by decide +kernel, by decide +kernel⟩
theorem mv_Hart_take : MWV y_Hart_take := ⟨tb_m 248 (by decide +kernel) rfl, tb_p 2 (by decide +kernel) rfl⟩
theorem mw_Fault_of : MW y_Fault_of b_Fault_of 1 (some .long) 1 := ⟨tb_m 266 (by decide +kernel) rfl, tb_m 11 (by decide +kernel) rfl, by decide +kernel, by decide +kernel, by decide +kernel⟩
theorem ms_Fault_of : MWS y_Fault_of := tb_m 265 (by decide +kernel) rfl
theorem mw_Csrs_levelBefore : MW y_Csrs_levelBefore b_Csrs_levelBefore 1 (some .int) 0 := ⟨tb_m 276 (by decide +kernel) rfl, tb_m 6 (by decide +kernel) rfl, by decide +kernel, by decide +kernel, by decide +kernel⟩
theorem mv_Csrs_levelBefore : MWV y_Csrs_levelBefore := ⟨tb_m 275 (by decide +kernel) rfl, tb_p 4 (by decide +kernel) rfl⟩
theorem mw_Csrs_dataLevel : MW y_Csrs_dataLevel b_Csrs_dataLevel 2 (some .int) 1 := ⟨tb_m 271 (by decide +kernel) rfl, tb_m 6 (by decide +kernel) rfl, by decide +kernel, by decide +kernel, by decide +kernel⟩
theorem mv_Csrs_dataLevel : MWV y_Csrs_dataLevel := ⟨tb_m 269 (by decide +kernel) rfl, tb_m 270 (by decide +kernel) rfl⟩
theorem mw_Csrs_hasPages : MW y_Csrs_hasPages b_Csrs_hasPages 1 (some .boolean) 0 := ⟨tb_m 281 (by decide +kernel) rfl, tb_m 6 (by decide +kernel) rfl, by decide +kernel, by decide +kernel, by decide +kernel⟩
theorem mv_Csrs_hasPages : MWV y_Csrs_hasPages := ⟨tb_m 279 (by decide +kernel) rfl, tb_m 280 (by decide +kernel) rfl⟩
theorem mw_Csrs_rootPage : MW y_Csrs_rootPage b_Csrs_rootPage 1 (some .int) 0 := ⟨tb_m 288 (by decide +kernel) rfl, tb_m 6 (by decide +kernel) rfl, by decide +kernel, by decide +kernel, by decide +kernel⟩
theorem mv_Csrs_rootPage : MWV y_Csrs_rootPage := ⟨tb_m 286 (by decide +kernel) rfl, tb_m 287 (by decide +kernel) rfl⟩
theorem mw_Pages_entryPlace : MW y_Pages_entryPlace b_Pages_entryPlace 2 (some .long) 2 := ⟨tb_m 292 (by decide +kernel) rfl, tb_m 12 (by decide +kernel) rfl, by decide +kernel, by decide +kernel, by decide +kernel⟩
theorem ms_Pages_entryPlace : MWS y_Pages_entryPlace := tb_m 291 (by decide +kernel) rfl
theorem mw_Memory_isRam : MW y_Memory_isRam b_Memory_isRam 3 (some .boolean) 1 := ⟨tb_m 297 (by decide +kernel) rfl, tb_m 2 (by decide +kernel) rfl, by decide +kernel, by decide +kernel, by decide +kernel⟩
theorem mv_Memory_isRam : MWV y_Memory_isRam := ⟨tb_m 295 (by decide +kernel) rfl, tb_m 296 (by decide +kernel) rfl⟩
theorem mw_Memory_indexOf : MW y_Memory_indexOf b_Memory_indexOf 2 (some .int) 1 := ⟨tb_m 307 (by decide +kernel) rfl, tb_m 2 (by decide +kernel) rfl, by decide +kernel, by decide +kernel, by decide +kernel⟩
theorem ms_Memory_indexOf : MWS y_Memory_indexOf := tb_m 306 (by decide +kernel) rfl
theorem mw_Memory_wordAt : MW y_Memory_wordAt b_Memory_wordAt 3 (some .int) 1 := ⟨tb_m 304 (by decide +kernel) rfl, tb_m 2 (by decide +kernel) rfl, by decide +kernel, by decide +kernel, by decide +kernel⟩
theorem mv_Memory_wordAt : MWV y_Memory_wordAt := ⟨tb_m 302 (by decide +kernel) rfl, tb_m 303 (by decide +kernel) rfl⟩
theorem mw_Pages_isPage : MW y_Pages_isPage b_Pages_isPage 2 (some .boolean) 1 := ⟨tb_m 310 (by decide +kernel) rfl, tb_m 12 (by decide +kernel) rfl, by decide +kernel, by decide +kernel, by decide +kernel⟩
theorem ms_Pages_isPage : MWS y_Pages_isPage := tb_m 309 (by decide +kernel) rfl
theorem mw_Pages_admits : MW y_Pages_admits b_Pages_admits 8 (some .boolean) 4 := ⟨tb_m 313 (by decide +kernel) rfl, tb_m 12 (by decide +kernel) rfl, by decide +kernel, by decide +kernel, by decide +kernel⟩
theorem ms_Pages_admits : MWS y_Pages_admits := tb_m 312 (by decide +kernel) rfl
theorem mw_Pages_placeOf : MW y_Pages_placeOf b_Pages_placeOf 12 (some .long) 5 := ⟨tb_m 284 (by decide +kernel) rfl, tb_m 12 (by decide +kernel) rfl, by decide +kernel, by decide +kernel, by decide +kernel⟩
theorem ms_Pages_placeOf : MWS y_Pages_placeOf := tb_m 283 (by decide +kernel) rfl
theorem mw_Clint_slotAt : MW y_Clint_slotAt b_Clint_slotAt 2 (some .int) 1 := ⟨tb_m 325 (by decide +kernel) rfl, tb_m 4 (by decide +kernel) rfl, by decide +kernel, by decide +kernel, by decide +kernel⟩
theorem ms_Clint_slotAt : MWS y_Clint_slotAt := tb_m 324 (by decide +kernel) rfl
theorem mw_Memory_allows : MW y_Memory_allows b_Memory_allows 5 (some .boolean) 3 := ⟨tb_m 321 (by decide +kernel) rfl, tb_m 2 (by decide +kernel) rfl, by decide +kernel, by decide +kernel, by decide +kernel⟩
theorem mv_Memory_allows : MWV y_Memory_allows := ⟨tb_m 319 (by decide +kernel) rfl, tb_m 320 (by decide +kernel) rfl⟩
theorem mw_Hart_locate : MW y_Hart_locate b_Hart_locate 8 (some .long) 4 := ⟨tb_m 263 (by decide +kernel) rfl, tb_m 5 (by decide +kernel) rfl, by decide +kernel, by decide +kernel, by decide +kernel⟩
theorem mv_Hart_locate : MWV y_Hart_locate := ⟨tb_m 262 (by decide +kernel) rfl, tb_p 3 (by decide +kernel) rfl⟩
theorem mw_Fault_causeOf : MW y_Fault_causeOf b_Fault_causeOf 2 (some .int) 1 := ⟨tb_m 339 (by decide +kernel) rfl, tb_m 11 (by decide +kernel) rfl, by decide +kernel, by decide +kernel, by decide +kernel⟩
theorem ms_Fault_causeOf : MWS y_Fault_causeOf := tb_m 338 (by decide +kernel) rfl
theorem mw_Hart_trap : MW y_Hart_trap b_Hart_trap 3 (some .int) 2 := ⟨tb_m 343 (by decide +kernel) rfl, tb_m 5 (by decide +kernel) rfl, by decide +kernel, by decide +kernel, by decide +kernel⟩
theorem mv_Hart_trap : MWV y_Hart_trap := ⟨tb_m 342 (by decide +kernel) rfl, tb_p 6 (by decide +kernel) rfl⟩
theorem mw_Hart_fault : MW y_Hart_fault b_Hart_fault 4 (some .int) 2 := ⟨tb_m 336 (by decide +kernel) rfl, tb_m 5 (by decide +kernel) rfl, by decide +kernel, by decide +kernel, by decide +kernel⟩
theorem mv_Hart_fault : MWV y_Hart_fault := ⟨tb_m 335 (by decide +kernel) rfl, tb_p 5 (by decide +kernel) rfl⟩
theorem mw_Field_f3 : MW y_Field_f3 b_Field_f3 1 (some .int) 1 := ⟨tb_m 355 (by decide +kernel) rfl, tb_m 13 (by decide +kernel) rfl, by decide +kernel, by decide +kernel, by decide +kernel⟩
theorem ms_Field_f3 : MWS y_Field_f3 := tb_m 354 (by decide +kernel) rfl
theorem mw_Hart_illegal : MW y_Hart_illegal b_Hart_illegal 2 (some .int) 1 := ⟨tb_m 359 (by decide +kernel) rfl, tb_m 5 (by decide +kernel) rfl, by decide +kernel, by decide +kernel, by decide +kernel⟩
theorem mv_Hart_illegal : MWV y_Hart_illegal := ⟨tb_m 358 (by decide +kernel) rfl, tb_p 9 (by decide +kernel) rfl⟩
theorem mw_Field_rs1 : MW y_Field_rs1 b_Field_rs1 1 (some .int) 1 := ⟨tb_m 362 (by decide +kernel) rfl, tb_m 13 (by decide +kernel) rfl, by decide +kernel, by decide +kernel, by decide +kernel⟩
theorem ms_Field_rs1 : MWS y_Field_rs1 := tb_m 361 (by decide +kernel) rfl
theorem mw_Field_immediate : MW y_Field_immediate b_Field_immediate 1 (some .int) 1 := ⟨tb_m 365 (by decide +kernel) rfl, tb_m 13 (by decide +kernel) rfl, by decide +kernel, by decide +kernel, by decide +kernel⟩
theorem ms_Field_immediate : MWS y_Field_immediate := tb_m 364 (by decide +kernel) rfl
theorem mw_Memory_shiftOf : MW y_Memory_shiftOf b_Memory_shiftOf 2 (some .int) 1 := ⟨tb_m 374 (by decide +kernel) rfl, tb_m 2 (by decide +kernel) rfl, by decide +kernel, by decide +kernel, by decide +kernel⟩
theorem ms_Memory_shiftOf : MWS y_Memory_shiftOf := tb_m 373 (by decide +kernel) rfl
theorem mw_Memory_maskOf : MW y_Memory_maskOf b_Memory_maskOf 1 (some .int) 1 := ⟨tb_m 378 (by decide +kernel) rfl, tb_m 2 (by decide +kernel) rfl, by decide +kernel, by decide +kernel, by decide +kernel⟩
theorem ms_Memory_maskOf : MWS y_Memory_maskOf := tb_m 377 (by decide +kernel) rfl
theorem mw_Memory_load : MW y_Memory_load b_Memory_load 5 (some .int) 2 := ⟨tb_m 371 (by decide +kernel) rfl, tb_m 2 (by decide +kernel) rfl, by decide +kernel, by decide +kernel, by decide +kernel⟩
theorem mv_Memory_load : MWV y_Memory_load := ⟨tb_m 369 (by decide +kernel) rfl, tb_m 370 (by decide +kernel) rfl⟩
theorem mw_Field_rd : MW y_Field_rd b_Field_rd 1 (some .int) 1 := ⟨tb_m 385 (by decide +kernel) rfl, tb_m 13 (by decide +kernel) rfl, by decide +kernel, by decide +kernel, by decide +kernel⟩
theorem ms_Field_rd : MWS y_Field_rd := tb_m 384 (by decide +kernel) rfl
theorem mw_Hart_write : MW y_Hart_write b_Hart_write 3 none 2 := ⟨tb_m 389 (by decide +kernel) rfl, tb_m 5 (by decide +kernel) rfl, by decide +kernel, by decide +kernel, by decide +kernel⟩
theorem mv_Hart_write : MWV y_Hart_write := ⟨tb_m 388 (by decide +kernel) rfl, tb_p 11 (by decide +kernel) rfl⟩
theorem mw_Hart_goOn : MW y_Hart_goOn b_Hart_goOn 1 (some .int) 0 := ⟨tb_m 393 (by decide +kernel) rfl, tb_m 5 (by decide +kernel) rfl, by decide +kernel, by decide +kernel, by decide +kernel⟩
theorem mv_Hart_goOn : MWV y_Hart_goOn := ⟨tb_m 392 (by decide +kernel) rfl, tb_p 12 (by decide +kernel) rfl⟩
theorem mw_Hart_finish : MW y_Hart_finish b_Hart_finish 3 (some .int) 2 := ⟨tb_m 382 (by decide +kernel) rfl, tb_m 5 (by decide +kernel) rfl, by decide +kernel, by decide +kernel, by decide +kernel⟩
theorem mv_Hart_finish : MWV y_Hart_finish := ⟨tb_m 381 (by decide +kernel) rfl, tb_p 10 (by decide +kernel) rfl⟩
theorem mw_Hart_load : MW y_Hart_load b_Hart_load 9 (some .int) 2 := ⟨tb_m 352 (by decide +kernel) rfl, tb_m 5 (by decide +kernel) rfl, by decide +kernel, by decide +kernel, by decide +kernel⟩
theorem mv_Hart_load : MWV y_Hart_load := ⟨tb_m 351 (by decide +kernel) rfl, tb_p 8 (by decide +kernel) rfl⟩
theorem mw_Field_f7 : MW y_Field_f7 b_Field_f7 1 (some .int) 1 := ⟨tb_m 400 (by decide +kernel) rfl, tb_m 13 (by decide +kernel) rfl, by decide +kernel, by decide +kernel, by decide +kernel⟩
theorem ms_Field_f7 : MWS y_Field_f7 := tb_m 399 (by decide +kernel) rfl
theorem mw_Field_rs2 : MW y_Field_rs2 b_Field_rs2 1 (some .int) 1 := ⟨tb_m 403 (by decide +kernel) rfl, tb_m 13 (by decide +kernel) rfl, by decide +kernel, by decide +kernel, by decide +kernel⟩
theorem ms_Field_rs2 : MWS y_Field_rs2 := tb_m 402 (by decide +kernel) rfl
theorem mw_Alu_plain : MW y_Alu_plain b_Alu_plain 3 (some .int) 3 := ⟨tb_m 406 (by decide +kernel) rfl, tb_m 8 (by decide +kernel) rfl, by decide +kernel, by decide +kernel, by decide +kernel⟩
theorem ms_Alu_plain : MWS y_Alu_plain := tb_m 405 (by decide +kernel) rfl
theorem mw_Hart_computeWithImmediate : MW y_Hart_computeWithImmediate b_Hart_computeWithImmediate 5 (some .int) 1 := ⟨tb_m 397 (by decide +kernel) rfl, tb_m 5 (by decide +kernel) rfl, by decide +kernel, by decide +kernel, by decide +kernel⟩
theorem mv_Hart_computeWithImmediate : MWV y_Hart_computeWithImmediate := ⟨tb_m 396 (by decide +kernel) rfl, tb_p 13 (by decide +kernel) rfl⟩
theorem mw_Field_upper : MW y_Field_upper b_Field_upper 1 (some .int) 1 := ⟨tb_m 410 (by decide +kernel) rfl, tb_m 13 (by decide +kernel) rfl, by decide +kernel, by decide +kernel, by decide +kernel⟩
theorem ms_Field_upper : MWS y_Field_upper := tb_m 409 (by decide +kernel) rfl
theorem mw_Field_storeOffset : MW y_Field_storeOffset b_Field_storeOffset 1 (some .int) 1 := ⟨tb_m 417 (by decide +kernel) rfl, tb_m 13 (by decide +kernel) rfl, by decide +kernel, by decide +kernel, by decide +kernel⟩
theorem ms_Field_storeOffset : MWS y_Field_storeOffset := tb_m 416 (by decide +kernel) rfl
theorem mw_Memory_print : MW y_Memory_print b_Memory_print 2 none 1 := ⟨tb_m 428 (by decide +kernel) rfl, tb_m 2 (by decide +kernel) rfl, by decide +kernel, by decide +kernel, by decide +kernel⟩
theorem mv_Memory_print : MWV y_Memory_print := ⟨tb_m 427 (by decide +kernel) rfl, tb_p 15 (by decide +kernel) rfl⟩
theorem mw_Clint_store : MW y_Clint_store b_Clint_store 5 none 2 := ⟨tb_m 432 (by decide +kernel) rfl, tb_m 4 (by decide +kernel) rfl, by decide +kernel, by decide +kernel, by decide +kernel⟩
theorem mv_Clint_store : MWV y_Clint_store := ⟨tb_m 430 (by decide +kernel) rfl, tb_m 431 (by decide +kernel) rfl⟩
theorem mw_Memory_store : MW y_Memory_store b_Memory_store 7 none 3 := ⟨tb_m 424 (by decide +kernel) rfl, tb_m 2 (by decide +kernel) rfl, by decide +kernel, by decide +kernel, by decide +kernel⟩
theorem mv_Memory_store : MWV y_Memory_store := ⟨tb_m 422 (by decide +kernel) rfl, tb_m 423 (by decide +kernel) rfl⟩
theorem mw_Hart_store : MW y_Hart_store b_Hart_store 8 (some .int) 2 := ⟨tb_m 414 (by decide +kernel) rfl, tb_m 5 (by decide +kernel) rfl, by decide +kernel, by decide +kernel, by decide +kernel⟩
theorem mv_Hart_store : MWV y_Hart_store := ⟨tb_m 413 (by decide +kernel) rfl, tb_p 14 (by decide +kernel) rfl⟩
theorem mw_Hart_isChange : MW y_Hart_isChange b_Hart_isChange 2 (some .boolean) 2 := ⟨tb_m 440 (by decide +kernel) rfl, tb_m 5 (by decide +kernel) rfl, by decide +kernel, by decide +kernel, by decide +kernel⟩
theorem ms_Hart_isChange : MWS y_Hart_isChange := tb_m 439 (by decide +kernel) rfl
theorem mw_Memory_storeIfClaimed : MW y_Memory_storeIfClaimed b_Memory_storeIfClaimed 6 (some .boolean) 3 := ⟨tb_m 448 (by decide +kernel) rfl, tb_m 2 (by decide +kernel) rfl, by decide +kernel, by decide +kernel, by decide +kernel⟩
theorem mv_Memory_storeIfClaimed : MWV y_Memory_storeIfClaimed := ⟨tb_m 446 (by decide +kernel) rfl, tb_m 447 (by decide +kernel) rfl⟩
theorem mw_Memory_claim : MW y_Memory_claim b_Memory_claim 4 none 2 := ⟨tb_m 453 (by decide +kernel) rfl, tb_m 2 (by decide +kernel) rfl, by decide +kernel, by decide +kernel, by decide +kernel⟩
theorem mv_Memory_claim : MWV y_Memory_claim := ⟨tb_m 451 (by decide +kernel) rfl, tb_m 452 (by decide +kernel) rfl⟩
theorem mw_Alu_changed : MW y_Alu_changed b_Alu_changed 3 (some .int) 3 := ⟨tb_m 456 (by decide +kernel) rfl, tb_m 8 (by decide +kernel) rfl, by decide +kernel, by decide +kernel, by decide +kernel⟩
theorem ms_Alu_changed : MWS y_Alu_changed := tb_m 455 (by decide +kernel) rfl
theorem mw_Hart_changeAtOnce : MW y_Hart_changeAtOnce b_Hart_changeAtOnce 9 (some .int) 2 := ⟨tb_m 437 (by decide +kernel) rfl, tb_m 5 (by decide +kernel) rfl, by decide +kernel, by decide +kernel, by decide +kernel⟩
theorem mv_Hart_changeAtOnce : MWV y_Hart_changeAtOnce := ⟨tb_m 436 (by decide +kernel) rfl, tb_p 16 (by decide +kernel) rfl⟩
theorem mw_Alu_multiplied : MW y_Alu_multiplied b_Alu_multiplied 3 (some .int) 3 := ⟨tb_m 465 (by decide +kernel) rfl, tb_m 8 (by decide +kernel) rfl, by decide +kernel, by decide +kernel, by decide +kernel⟩
theorem ms_Alu_multiplied : MWS y_Alu_multiplied := tb_m 464 (by decide +kernel) rfl
theorem mw_Alu_divided : MW y_Alu_divided b_Alu_divided 3 (some .int) 3 := ⟨tb_m 469 (by decide +kernel) rfl, tb_m 8 (by decide +kernel) rfl, by decide +kernel, by decide +kernel, by decide +kernel⟩
theorem ms_Alu_divided : MWS y_Alu_divided := tb_m 468 (by decide +kernel) rfl
theorem mw_Hart_compute : MW y_Hart_compute b_Hart_compute 6 (some .int) 1 := ⟨tb_m 462 (by decide +kernel) rfl, tb_m 5 (by decide +kernel) rfl, by decide +kernel, by decide +kernel, by decide +kernel⟩
theorem mv_Hart_compute : MWV y_Hart_compute := ⟨tb_m 461 (by decide +kernel) rfl, tb_p 17 (by decide +kernel) rfl⟩
theorem mw_Alu_branches : MW y_Alu_branches b_Alu_branches 3 (some .boolean) 3 := ⟨tb_m 476 (by decide +kernel) rfl, tb_m 8 (by decide +kernel) rfl, by decide +kernel, by decide +kernel, by decide +kernel⟩
theorem ms_Alu_branches : MWS y_Alu_branches := tb_m 475 (by decide +kernel) rfl
theorem mw_Field_branchOffset : MW y_Field_branchOffset b_Field_branchOffset 1 (some .int) 1 := ⟨tb_m 479 (by decide +kernel) rfl, tb_m 13 (by decide +kernel) rfl, by decide +kernel, by decide +kernel, by decide +kernel⟩
theorem ms_Field_branchOffset : MWS y_Field_branchOffset := tb_m 478 (by decide +kernel) rfl
theorem mw_Hart_branch : MW y_Hart_branch b_Hart_branch 4 (some .int) 1 := ⟨tb_m 473 (by decide +kernel) rfl, tb_m 5 (by decide +kernel) rfl, by decide +kernel, by decide +kernel, by decide +kernel⟩
theorem mv_Hart_branch : MWV y_Hart_branch := ⟨tb_m 472 (by decide +kernel) rfl, tb_p 18 (by decide +kernel) rfl⟩
theorem mw_Hart_jump : MW y_Hart_jump b_Hart_jump 3 (some .int) 2 := ⟨tb_m 487 (by decide +kernel) rfl, tb_m 5 (by decide +kernel) rfl, by decide +kernel, by decide +kernel, by decide +kernel⟩
theorem mv_Hart_jump : MWV y_Hart_jump := ⟨tb_m 486 (by decide +kernel) rfl, tb_p 20 (by decide +kernel) rfl⟩
theorem mw_Hart_jumpByRegister : MW y_Hart_jumpByRegister b_Hart_jumpByRegister 2 (some .int) 1 := ⟨tb_m 483 (by decide +kernel) rfl, tb_m 5 (by decide +kernel) rfl, by decide +kernel, by decide +kernel, by decide +kernel⟩
theorem mv_Hart_jumpByRegister : MWV y_Hart_jumpByRegister := ⟨tb_m 482 (by decide +kernel) rfl, tb_p 19 (by decide +kernel) rfl⟩
theorem mw_Field_jumpOffset : MW y_Field_jumpOffset b_Field_jumpOffset 1 (some .int) 1 := ⟨tb_m 490 (by decide +kernel) rfl, tb_m 13 (by decide +kernel) rfl, by decide +kernel, by decide +kernel, by decide +kernel⟩
theorem ms_Field_jumpOffset : MWS y_Field_jumpOffset := tb_m 489 (by decide +kernel) rfl
theorem mw_Csrs_leaveMachine : MW y_Csrs_leaveMachine b_Csrs_leaveMachine 4 (some .int) 0 := ⟨tb_m 503 (by decide +kernel) rfl, tb_m 6 (by decide +kernel) rfl, by decide +kernel, by decide +kernel, by decide +kernel⟩
theorem mv_Csrs_leaveMachine : MWV y_Csrs_leaveMachine := ⟨tb_m 501 (by decide +kernel) rfl, tb_m 502 (by decide +kernel) rfl⟩
theorem mw_Hart_returnFromMachine : MW y_Hart_returnFromMachine b_Hart_returnFromMachine 1 (some .int) 0 := ⟨tb_m 499 (by decide +kernel) rfl, tb_m 5 (by decide +kernel) rfl, by decide +kernel, by decide +kernel, by decide +kernel⟩
theorem mv_Hart_returnFromMachine : MWV y_Hart_returnFromMachine := ⟨tb_m 498 (by decide +kernel) rfl, tb_p 22 (by decide +kernel) rfl⟩
theorem mw_Csrs_leaveSupervisor : MW y_Csrs_leaveSupervisor b_Csrs_leaveSupervisor 3 (some .int) 0 := ⟨tb_m 512 (by decide +kernel) rfl, tb_m 6 (by decide +kernel) rfl, by decide +kernel, by decide +kernel, by decide +kernel⟩
theorem mv_Csrs_leaveSupervisor : MWV y_Csrs_leaveSupervisor := ⟨tb_m 510 (by decide +kernel) rfl, tb_m 511 (by decide +kernel) rfl⟩
theorem mw_Hart_returnFromSupervisor : MW y_Hart_returnFromSupervisor b_Hart_returnFromSupervisor 1 (some .int) 0 := ⟨tb_m 508 (by decide +kernel) rfl, tb_m 5 (by decide +kernel) rfl, by decide +kernel, by decide +kernel, by decide +kernel⟩
theorem mv_Hart_returnFromSupervisor : MWV y_Hart_returnFromSupervisor := ⟨tb_m 507 (by decide +kernel) rfl, tb_p 23 (by decide +kernel) rfl⟩
theorem mw_Hart_callSystem : MW y_Hart_callSystem b_Hart_callSystem 3 (some .int) 1 := ⟨tb_m 495 (by decide +kernel) rfl, tb_m 5 (by decide +kernel) rfl, by decide +kernel, by decide +kernel, by decide +kernel⟩
theorem mv_Hart_callSystem : MWV y_Hart_callSystem := ⟨tb_m 494 (by decide +kernel) rfl, tb_p 21 (by decide +kernel) rfl⟩
theorem mw_Csrs_isTold : MW y_Csrs_isTold b_Csrs_isTold 1 (some .boolean) 1 := ⟨tb_m 523 (by decide +kernel) rfl, tb_m 6 (by decide +kernel) rfl, by decide +kernel, by decide +kernel, by decide +kernel⟩
theorem ms_Csrs_isTold : MWS y_Csrs_isTold := tb_m 522 (by decide +kernel) rfl
theorem mw_Csrs_isReadOnly : MW y_Csrs_isReadOnly b_Csrs_isReadOnly 1 (some .boolean) 1 := ⟨tb_m 526 (by decide +kernel) rfl, tb_m 6 (by decide +kernel) rfl, by decide +kernel, by decide +kernel, by decide +kernel⟩
theorem ms_Csrs_isReadOnly : MWS y_Csrs_isReadOnly := tb_m 525 (by decide +kernel) rfl
theorem mw_Csrs_isAllowed : MW y_Csrs_isAllowed b_Csrs_isAllowed 3 (some .boolean) 3 := ⟨tb_m 520 (by decide +kernel) rfl, tb_m 6 (by decide +kernel) rfl, by decide +kernel, by decide +kernel, by decide +kernel⟩
theorem ms_Csrs_isAllowed : MWS y_Csrs_isAllowed := tb_m 519 (by decide +kernel) rfl
theorem mw_Csrs_read : MW y_Csrs_read b_Csrs_read 3 (some .int) 2 := ⟨tb_m 530 (by decide +kernel) rfl, tb_m 6 (by decide +kernel) rfl, by decide +kernel, by decide +kernel, by decide +kernel⟩
theorem mv_Csrs_read : MWV y_Csrs_read := ⟨tb_m 528 (by decide +kernel) rfl, tb_m 529 (by decide +kernel) rfl⟩
theorem mw_Hart_mixed : MW y_Hart_mixed b_Hart_mixed 3 (some .int) 3 := ⟨tb_m 535 (by decide +kernel) rfl, tb_m 5 (by decide +kernel) rfl, by decide +kernel, by decide +kernel, by decide +kernel⟩
theorem ms_Hart_mixed : MWS y_Hart_mixed := tb_m 534 (by decide +kernel) rfl
theorem mw_Csrs_merged : MW y_Csrs_merged b_Csrs_merged 3 (some .int) 3 := ⟨tb_m 546 (by decide +kernel) rfl, tb_m 6 (by decide +kernel) rfl, by decide +kernel, by decide +kernel, by decide +kernel⟩
theorem ms_Csrs_merged : MWS y_Csrs_merged := tb_m 545 (by decide +kernel) rfl
theorem mw_Csrs_writeSupervisor : MW y_Csrs_writeSupervisor b_Csrs_writeSupervisor 3 none 2 := ⟨tb_m 543 (by decide +kernel) rfl, tb_m 6 (by decide +kernel) rfl, by decide +kernel, by decide +kernel, by decide +kernel⟩
theorem mv_Csrs_writeSupervisor : MWV y_Csrs_writeSupervisor := ⟨tb_m 542 (by decide +kernel) rfl, tb_p 25 (by decide +kernel) rfl⟩
theorem mw_Csrs_withoutLevelTwo : MW y_Csrs_withoutLevelTwo b_Csrs_withoutLevelTwo 1 (some .int) 1 := ⟨tb_m 555 (by decide +kernel) rfl, tb_m 6 (by decide +kernel) rfl, by decide +kernel, by decide +kernel, by decide +kernel⟩
theorem ms_Csrs_withoutLevelTwo : MWS y_Csrs_withoutLevelTwo := tb_m 554 (by decide +kernel) rfl
theorem mw_Csrs_writeMachine : MW y_Csrs_writeMachine b_Csrs_writeMachine 3 none 2 := ⟨tb_m 551 (by decide +kernel) rfl, tb_m 6 (by decide +kernel) rfl, by decide +kernel, by decide +kernel, by decide +kernel⟩
theorem mv_Csrs_writeMachine : MWV y_Csrs_writeMachine := ⟨tb_m 550 (by decide +kernel) rfl, tb_p 26 (by decide +kernel) rfl⟩
theorem mw_Csrs_write : MW y_Csrs_write b_Csrs_write 3 none 2 := ⟨tb_m 539 (by decide +kernel) rfl, tb_m 6 (by decide +kernel) rfl, by decide +kernel, by decide +kernel, by decide +kernel⟩
theorem mv_Csrs_write : MWV y_Csrs_write := ⟨tb_m 537 (by decide +kernel) rfl, tb_m 538 (by decide +kernel) rfl⟩
theorem mw_Hart_exchange : MW y_Hart_exchange b_Hart_exchange 10 (some .int) 2 := ⟨tb_m 517 (by decide +kernel) rfl, tb_m 5 (by decide +kernel) rfl, by decide +kernel, by decide +kernel, by decide +kernel⟩
theorem mv_Hart_exchange : MWV y_Hart_exchange := ⟨tb_m 516 (by decide +kernel) rfl, tb_p 24 (by decide +kernel) rfl⟩
theorem mw_Hart_execute : MW y_Hart_execute b_Hart_execute 3 (some .int) 2 := ⟨tb_m 348 (by decide +kernel) rfl, tb_m 5 (by decide +kernel) rfl, by decide +kernel, by decide +kernel, by decide +kernel⟩
theorem mv_Hart_execute : MWV y_Hart_execute := ⟨tb_m 347 (by decide +kernel) rfl, tb_p 7 (by decide +kernel) rfl⟩
theorem mw_Csrs_handsDownTrap : MW y_Csrs_handsDownTrap b_Csrs_handsDownTrap 2 (some .boolean) 1 := ⟨tb_m 560 (by decide +kernel) rfl, tb_m 6 (by decide +kernel) rfl, by decide +kernel, by decide +kernel, by decide +kernel⟩
theorem mv_Csrs_handsDownTrap : MWV y_Csrs_handsDownTrap := ⟨tb_m 558 (by decide +kernel) rfl, tb_m 559 (by decide +kernel) rfl⟩
theorem mw_Hart_run : MW y_Hart_run b_Hart_run 7 (some .int) 1 := ⟨tb_m 216 (by decide +kernel) rfl, tb_m 5 (by decide +kernel) rfl, by decide +kernel, by decide +kernel, by decide +kernel⟩
theorem mv_Hart_run : MWV y_Hart_run := ⟨tb_m 214 (by decide +kernel) rfl, tb_m 215 (by decide +kernel) rfl⟩
theorem mw_Clint_advance : MW y_Clint_advance b_Clint_advance 1 none 0 := ⟨tb_m 569 (by decide +kernel) rfl, tb_m 4 (by decide +kernel) rfl, by decide +kernel, by decide +kernel, by decide +kernel⟩
theorem mv_Clint_advance : MWV y_Clint_advance := ⟨tb_m 567 (by decide +kernel) rfl, tb_m 568 (by decide +kernel) rfl⟩
theorem i_Memory : ∀ w ∈ u_ws R_Memory F_Memory 5, w ∈ tb := u_in_tb [61, 63, 65, 67, 69] (by decide +kernel) (by decide +kernel)
theorem i_Clint : ∀ w ∈ u_ws R_Clint F_Clint 1, w ∈ tb := u_in_tb [46] (by decide +kernel) (by decide +kernel)
theorem i_Csrs : ∀ w ∈ u_ws R_Csrs F_Csrs 17, w ∈ tb := u_in_tb [108, 110, 112, 114, 116, 118, 120, 122, 124, 126, 128, 130, 132, 134, 136, 138, 140] (by decide +kernel) (by decide +kernel)
theorem i_Hart : ∀ w ∈ u_ws R_Hart F_Hart 6, w ∈ tb := u_in_tb [153, 155, 157, 159, 161, 163] (by decide +kernel) (by decide +kernel)
end
section
theorem d_Alu_below_0 : decode b_Alu_below 0 = .ok (.iload_n 0, 1) := by decide +kernel
theorem d_Alu_below_1 : decode b_Alu_below 1 = .ok (.ldc 9, 2) := by decide +kernel
theorem d_Alu_below_3 : decode b_Alu_below 3 = .ok (.ixor, 1) := by decide +kernel
theorem d_Alu_below_4 : decode b_Alu_below 4 = .ok (.iload_n 1, 1) := by decide +kernel
theorem d_Alu_below_5 : decode b_Alu_below 5 = .ok (.ldc 9, 2) := by decide +kernel
theorem d_Alu_below_7 : decode b_Alu_below 7 = .ok (.ixor, 1) := by decide +kernel
theorem d_Alu_below_8 : decode b_Alu_below 8 = .ok (.if_icmp .ge 7, 3) := by decide +kernel
theorem d_Alu_below_11 : decode b_Alu_below 11 = .ok (.iconst 1, 1) := by decide +kernel
theorem d_Alu_below_12 : decode b_Alu_below 12 = .ok (.goto 4, 3) := by decide +kernel
theorem d_Alu_below_15 : decode b_Alu_below 15 = .ok (.iconst 0, 1) := by decide +kernel
theorem d_Alu_below_16 : decode b_Alu_below 16 = .ok (.ireturn, 1) := by decide +kernel
theorem d_Fault_of_0 : decode b_Fault_of 0 = .ok (.ldc2_w 7, 3) := by decide +kernel
theorem d_Fault_of_3 : decode b_Fault_of 3 = .ok (.iload_n 0, 1) := by decide +kernel
theorem d_Fault_of_4 : decode b_Fault_of 4 = .ok (.i2l, 1) := by decide +kernel
theorem d_Fault_of_5 : decode b_Fault_of 5 = .ok (.lsub, 1) := by decide +kernel
theorem d_Fault_of_6 : decode b_Fault_of 6 = .ok (.lreturn, 1) := by decide +kernel
theorem d_Fault_causeOf_0 : decode b_Fault_causeOf 0 = .ok (.ldc2_w 7, 3) := by decide +kernel
theorem d_Fault_causeOf_3 : decode b_Fault_causeOf 3 = .ok (.lload_n 0, 1) := by decide +kernel
theorem d_Fault_causeOf_4 : decode b_Fault_causeOf 4 = .ok (.lsub, 1) := by decide +kernel
theorem d_Fault_causeOf_5 : decode b_Fault_causeOf 5 = .ok (.l2i, 1) := by decide +kernel
theorem d_Fault_causeOf_6 : decode b_Fault_causeOf 6 = .ok (.ireturn, 1) := by decide +kernel
theorem d_Field_f3_0 : decode b_Field_f3 0 = .ok (.iload_n 0, 1) := by decide +kernel
theorem d_Field_f3_1 : decode b_Field_f3 1 = .ok (.bipush 12, 2) := by decide +kernel
theorem d_Field_f3_3 : decode b_Field_f3 3 = .ok (.iushr, 1) := by decide +kernel
theorem d_Field_f3_4 : decode b_Field_f3 4 = .ok (.bipush 7, 2) := by decide +kernel
theorem d_Field_f3_6 : decode b_Field_f3 6 = .ok (.iand, 1) := by decide +kernel
theorem d_Field_f3_7 : decode b_Field_f3 7 = .ok (.ireturn, 1) := by decide +kernel
theorem d_Field_rs1_0 : decode b_Field_rs1 0 = .ok (.iload_n 0, 1) := by decide +kernel
theorem d_Field_rs1_1 : decode b_Field_rs1 1 = .ok (.bipush 15, 2) := by decide +kernel
theorem d_Field_rs1_3 : decode b_Field_rs1 3 = .ok (.iushr, 1) := by decide +kernel
theorem d_Field_rs1_4 : decode b_Field_rs1 4 = .ok (.bipush 31, 2) := by decide +kernel
theorem d_Field_rs1_6 : decode b_Field_rs1 6 = .ok (.iand, 1) := by decide +kernel
theorem d_Field_rs1_7 : decode b_Field_rs1 7 = .ok (.ireturn, 1) := by decide +kernel
theorem d_Field_immediate_0 : decode b_Field_immediate 0 = .ok (.iload_n 0, 1) := by decide +kernel
theorem d_Field_immediate_1 : decode b_Field_immediate 1 = .ok (.bipush 20, 2) := by decide +kernel
theorem d_Field_immediate_3 : decode b_Field_immediate 3 = .ok (.ishr, 1) := by decide +kernel
theorem d_Field_immediate_4 : decode b_Field_immediate 4 = .ok (.ireturn, 1) := by decide +kernel
theorem d_Field_rd_0 : decode b_Field_rd 0 = .ok (.iload_n 0, 1) := by decide +kernel
theorem d_Field_rd_1 : decode b_Field_rd 1 = .ok (.bipush 7, 2) := by decide +kernel
theorem d_Field_rd_3 : decode b_Field_rd 3 = .ok (.iushr, 1) := by decide +kernel
theorem d_Field_rd_4 : decode b_Field_rd 4 = .ok (.bipush 31, 2) := by decide +kernel
theorem d_Field_rd_6 : decode b_Field_rd 6 = .ok (.iand, 1) := by decide +kernel
theorem d_Field_rd_7 : decode b_Field_rd 7 = .ok (.ireturn, 1) := by decide +kernel
theorem d_Field_f7_0 : decode b_Field_f7 0 = .ok (.iload_n 0, 1) := by decide +kernel
theorem d_Field_f7_1 : decode b_Field_f7 1 = .ok (.bipush 25, 2) := by decide +kernel
theorem d_Field_f7_3 : decode b_Field_f7 3 = .ok (.iushr, 1) := by decide +kernel
theorem d_Field_f7_4 : decode b_Field_f7 4 = .ok (.ireturn, 1) := by decide +kernel
theorem d_Field_rs2_0 : decode b_Field_rs2 0 = .ok (.iload_n 0, 1) := by decide +kernel
theorem d_Field_rs2_1 : decode b_Field_rs2 1 = .ok (.bipush 20, 2) := by decide +kernel
theorem d_Field_rs2_3 : decode b_Field_rs2 3 = .ok (.iushr, 1) := by decide +kernel
theorem d_Field_rs2_4 : decode b_Field_rs2 4 = .ok (.bipush 31, 2) := by decide +kernel
theorem d_Field_rs2_6 : decode b_Field_rs2 6 = .ok (.iand, 1) := by decide +kernel
theorem d_Field_rs2_7 : decode b_Field_rs2 7 = .ok (.ireturn, 1) := by decide +kernel
theorem d_Alu_plain_0 : decode b_Alu_plain 0 = .ok (.iload_n 0, 1) := by decide +kernel
theorem d_Alu_plain_1 : decode b_Alu_plain 1 = .ok (.tableswitch 94 0 6 #[43, 47, 54, 65, 79, 83, 90], 43) := by decide +kernel
theorem d_Alu_plain_44 : decode b_Alu_plain 44 = .ok (.iload_n 1, 1) := by decide +kernel
theorem d_Alu_plain_45 : decode b_Alu_plain 45 = .ok (.iload_n 2, 1) := by decide +kernel
theorem d_Alu_plain_46 : decode b_Alu_plain 46 = .ok (.iadd, 1) := by decide +kernel
theorem d_Alu_plain_47 : decode b_Alu_plain 47 = .ok (.ireturn, 1) := by decide +kernel
theorem d_Alu_plain_48 : decode b_Alu_plain 48 = .ok (.iload_n 1, 1) := by decide +kernel
theorem d_Alu_plain_49 : decode b_Alu_plain 49 = .ok (.iload_n 2, 1) := by decide +kernel
theorem d_Alu_plain_50 : decode b_Alu_plain 50 = .ok (.bipush 31, 2) := by decide +kernel
theorem d_Alu_plain_52 : decode b_Alu_plain 52 = .ok (.iand, 1) := by decide +kernel
theorem d_Alu_plain_53 : decode b_Alu_plain 53 = .ok (.ishl, 1) := by decide +kernel
theorem d_Alu_plain_54 : decode b_Alu_plain 54 = .ok (.ireturn, 1) := by decide +kernel
theorem d_Alu_plain_55 : decode b_Alu_plain 55 = .ok (.iload_n 1, 1) := by decide +kernel
theorem d_Alu_plain_56 : decode b_Alu_plain 56 = .ok (.iload_n 2, 1) := by decide +kernel
theorem d_Alu_plain_57 : decode b_Alu_plain 57 = .ok (.if_icmp .ge 7, 3) := by decide +kernel
theorem d_Alu_plain_60 : decode b_Alu_plain 60 = .ok (.iconst 1, 1) := by decide +kernel
theorem d_Alu_plain_61 : decode b_Alu_plain 61 = .ok (.goto 4, 3) := by decide +kernel
theorem d_Alu_plain_64 : decode b_Alu_plain 64 = .ok (.iconst 0, 1) := by decide +kernel
theorem d_Alu_plain_65 : decode b_Alu_plain 65 = .ok (.ireturn, 1) := by decide +kernel
theorem d_Alu_plain_66 : decode b_Alu_plain 66 = .ok (.iload_n 1, 1) := by decide +kernel
theorem d_Alu_plain_67 : decode b_Alu_plain 67 = .ok (.iload_n 2, 1) := by decide +kernel
theorem d_Alu_plain_68 : decode b_Alu_plain 68 = .ok (.invokestatic 10, 3) := by decide +kernel
theorem d_Alu_plain_71 : decode b_Alu_plain 71 = .ok (.ifCond .eq 7, 3) := by decide +kernel
theorem d_Alu_plain_74 : decode b_Alu_plain 74 = .ok (.iconst 1, 1) := by decide +kernel
theorem d_Alu_plain_75 : decode b_Alu_plain 75 = .ok (.goto 4, 3) := by decide +kernel
theorem d_Alu_plain_78 : decode b_Alu_plain 78 = .ok (.iconst 0, 1) := by decide +kernel
theorem d_Alu_plain_79 : decode b_Alu_plain 79 = .ok (.ireturn, 1) := by decide +kernel
theorem d_Alu_plain_80 : decode b_Alu_plain 80 = .ok (.iload_n 1, 1) := by decide +kernel
theorem d_Alu_plain_81 : decode b_Alu_plain 81 = .ok (.iload_n 2, 1) := by decide +kernel
theorem d_Alu_plain_82 : decode b_Alu_plain 82 = .ok (.ixor, 1) := by decide +kernel
theorem d_Alu_plain_83 : decode b_Alu_plain 83 = .ok (.ireturn, 1) := by decide +kernel
theorem d_Alu_plain_84 : decode b_Alu_plain 84 = .ok (.iload_n 1, 1) := by decide +kernel
theorem d_Alu_plain_85 : decode b_Alu_plain 85 = .ok (.iload_n 2, 1) := by decide +kernel
theorem d_Alu_plain_86 : decode b_Alu_plain 86 = .ok (.bipush 31, 2) := by decide +kernel
theorem d_Alu_plain_88 : decode b_Alu_plain 88 = .ok (.iand, 1) := by decide +kernel
theorem d_Alu_plain_89 : decode b_Alu_plain 89 = .ok (.iushr, 1) := by decide +kernel
theorem d_Alu_plain_90 : decode b_Alu_plain 90 = .ok (.ireturn, 1) := by decide +kernel
theorem d_Alu_plain_91 : decode b_Alu_plain 91 = .ok (.iload_n 1, 1) := by decide +kernel
theorem d_Alu_plain_92 : decode b_Alu_plain 92 = .ok (.iload_n 2, 1) := by decide +kernel
theorem d_Alu_plain_93 : decode b_Alu_plain 93 = .ok (.ior, 1) := by decide +kernel
theorem d_Alu_plain_94 : decode b_Alu_plain 94 = .ok (.ireturn, 1) := by decide +kernel
theorem d_Alu_plain_95 : decode b_Alu_plain 95 = .ok (.iload_n 1, 1) := by decide +kernel
theorem d_Alu_plain_96 : decode b_Alu_plain 96 = .ok (.iload_n 2, 1) := by decide +kernel
theorem d_Alu_plain_97 : decode b_Alu_plain 97 = .ok (.iand, 1) := by decide +kernel
theorem d_Alu_plain_98 : decode b_Alu_plain 98 = .ok (.ireturn, 1) := by decide +kernel
theorem d_Field_upper_0 : decode b_Field_upper 0 = .ok (.iload_n 0, 1) := by decide +kernel
theorem d_Field_upper_1 : decode b_Field_upper 1 = .ok (.sipush (-4096), 3) := by decide +kernel
theorem d_Field_upper_4 : decode b_Field_upper 4 = .ok (.iand, 1) := by decide +kernel
theorem d_Field_upper_5 : decode b_Field_upper 5 = .ok (.ireturn, 1) := by decide +kernel
theorem d_Field_storeOffset_0 : decode b_Field_storeOffset 0 = .ok (.iload_n 0, 1) := by decide +kernel
theorem d_Field_storeOffset_1 : decode b_Field_storeOffset 1 = .ok (.bipush 25, 2) := by decide +kernel
theorem d_Field_storeOffset_3 : decode b_Field_storeOffset 3 = .ok (.ishr, 1) := by decide +kernel
theorem d_Field_storeOffset_4 : decode b_Field_storeOffset 4 = .ok (.iconst 5, 1) := by decide +kernel
theorem d_Field_storeOffset_5 : decode b_Field_storeOffset 5 = .ok (.ishl, 1) := by decide +kernel
theorem d_Field_storeOffset_6 : decode b_Field_storeOffset 6 = .ok (.iload_n 0, 1) := by decide +kernel
theorem d_Field_storeOffset_7 : decode b_Field_storeOffset 7 = .ok (.invokestatic 7, 3) := by decide +kernel
theorem d_Field_storeOffset_10 : decode b_Field_storeOffset 10 = .ok (.ior, 1) := by decide +kernel
theorem d_Field_storeOffset_11 : decode b_Field_storeOffset 11 = .ok (.ireturn, 1) := by decide +kernel
theorem d_Alu_changed_0 : decode b_Alu_changed 0 = .ok (.iload_n 0, 1) := by decide +kernel
theorem d_Alu_changed_1 : decode b_Alu_changed 1 = .ok (.tableswitch 187 0 28 #[131, 187, 187, 187, 135, 187, 187, 187, 139, 187, 187, 187, 143, 187, 187, 187, 147, 187, 187, 187, 153, 187, 187, 187, 159, 187, 187, 187, 173], 131) := by decide +kernel
theorem d_Alu_changed_132 : decode b_Alu_changed 132 = .ok (.iload_n 1, 1) := by decide +kernel
theorem d_Alu_changed_133 : decode b_Alu_changed 133 = .ok (.iload_n 2, 1) := by decide +kernel
theorem d_Alu_changed_134 : decode b_Alu_changed 134 = .ok (.iadd, 1) := by decide +kernel
theorem d_Alu_changed_135 : decode b_Alu_changed 135 = .ok (.ireturn, 1) := by decide +kernel
theorem d_Alu_changed_136 : decode b_Alu_changed 136 = .ok (.iload_n 1, 1) := by decide +kernel
theorem d_Alu_changed_137 : decode b_Alu_changed 137 = .ok (.iload_n 2, 1) := by decide +kernel
theorem d_Alu_changed_138 : decode b_Alu_changed 138 = .ok (.ixor, 1) := by decide +kernel
theorem d_Alu_changed_139 : decode b_Alu_changed 139 = .ok (.ireturn, 1) := by decide +kernel
theorem d_Alu_changed_140 : decode b_Alu_changed 140 = .ok (.iload_n 1, 1) := by decide +kernel
theorem d_Alu_changed_141 : decode b_Alu_changed 141 = .ok (.iload_n 2, 1) := by decide +kernel
theorem d_Alu_changed_142 : decode b_Alu_changed 142 = .ok (.ior, 1) := by decide +kernel
theorem d_Alu_changed_143 : decode b_Alu_changed 143 = .ok (.ireturn, 1) := by decide +kernel
theorem d_Alu_changed_144 : decode b_Alu_changed 144 = .ok (.iload_n 1, 1) := by decide +kernel
theorem d_Alu_changed_145 : decode b_Alu_changed 145 = .ok (.iload_n 2, 1) := by decide +kernel
theorem d_Alu_changed_146 : decode b_Alu_changed 146 = .ok (.iand, 1) := by decide +kernel
theorem d_Alu_changed_147 : decode b_Alu_changed 147 = .ok (.ireturn, 1) := by decide +kernel
theorem d_Alu_changed_148 : decode b_Alu_changed 148 = .ok (.iload_n 1, 1) := by decide +kernel
theorem d_Alu_changed_149 : decode b_Alu_changed 149 = .ok (.iload_n 2, 1) := by decide +kernel
theorem d_Alu_changed_150 : decode b_Alu_changed 150 = .ok (.invokestatic 18, 3) := by decide +kernel
theorem d_Alu_changed_153 : decode b_Alu_changed 153 = .ok (.ireturn, 1) := by decide +kernel
theorem d_Alu_changed_154 : decode b_Alu_changed 154 = .ok (.iload_n 1, 1) := by decide +kernel
theorem d_Alu_changed_155 : decode b_Alu_changed 155 = .ok (.iload_n 2, 1) := by decide +kernel
theorem d_Alu_changed_156 : decode b_Alu_changed 156 = .ok (.invokestatic 24, 3) := by decide +kernel
theorem d_Alu_changed_159 : decode b_Alu_changed 159 = .ok (.ireturn, 1) := by decide +kernel
theorem d_Alu_changed_160 : decode b_Alu_changed 160 = .ok (.iload_n 1, 1) := by decide +kernel
theorem d_Alu_changed_161 : decode b_Alu_changed 161 = .ok (.iload_n 2, 1) := by decide +kernel
theorem d_Alu_changed_162 : decode b_Alu_changed 162 = .ok (.invokestatic 10, 3) := by decide +kernel
theorem d_Alu_changed_165 : decode b_Alu_changed 165 = .ok (.ifCond .eq 7, 3) := by decide +kernel
theorem d_Alu_changed_168 : decode b_Alu_changed 168 = .ok (.iload_n 1, 1) := by decide +kernel
theorem d_Alu_changed_169 : decode b_Alu_changed 169 = .ok (.goto 4, 3) := by decide +kernel
theorem d_Alu_changed_172 : decode b_Alu_changed 172 = .ok (.iload_n 2, 1) := by decide +kernel
theorem d_Alu_changed_173 : decode b_Alu_changed 173 = .ok (.ireturn, 1) := by decide +kernel
theorem d_Alu_changed_174 : decode b_Alu_changed 174 = .ok (.iload_n 1, 1) := by decide +kernel
theorem d_Alu_changed_175 : decode b_Alu_changed 175 = .ok (.iload_n 2, 1) := by decide +kernel
theorem d_Alu_changed_176 : decode b_Alu_changed 176 = .ok (.invokestatic 10, 3) := by decide +kernel
theorem d_Alu_changed_179 : decode b_Alu_changed 179 = .ok (.ifCond .eq 7, 3) := by decide +kernel
theorem d_Alu_changed_182 : decode b_Alu_changed 182 = .ok (.iload_n 2, 1) := by decide +kernel
theorem d_Alu_changed_183 : decode b_Alu_changed 183 = .ok (.goto 4, 3) := by decide +kernel
theorem d_Alu_changed_186 : decode b_Alu_changed 186 = .ok (.iload_n 1, 1) := by decide +kernel
theorem d_Alu_changed_187 : decode b_Alu_changed 187 = .ok (.ireturn, 1) := by decide +kernel
theorem d_Alu_changed_188 : decode b_Alu_changed 188 = .ok (.iload_n 2, 1) := by decide +kernel
theorem d_Alu_changed_189 : decode b_Alu_changed 189 = .ok (.ireturn, 1) := by decide +kernel
theorem d_Alu_multiplied_0 : decode b_Alu_multiplied 0 = .ok (.iload_n 0, 1) := by decide +kernel
theorem d_Alu_multiplied_1 : decode b_Alu_multiplied 1 = .ok (.tableswitch 69 1 3 #[27, 37, 51], 27) := by decide +kernel
theorem d_Alu_multiplied_28 : decode b_Alu_multiplied 28 = .ok (.iload_n 1, 1) := by decide +kernel
theorem d_Alu_multiplied_29 : decode b_Alu_multiplied 29 = .ok (.i2l, 1) := by decide +kernel
theorem d_Alu_multiplied_30 : decode b_Alu_multiplied 30 = .ok (.iload_n 2, 1) := by decide +kernel
theorem d_Alu_multiplied_31 : decode b_Alu_multiplied 31 = .ok (.i2l, 1) := by decide +kernel
theorem d_Alu_multiplied_32 : decode b_Alu_multiplied 32 = .ok (.lmul, 1) := by decide +kernel
theorem d_Alu_multiplied_33 : decode b_Alu_multiplied 33 = .ok (.bipush 32, 2) := by decide +kernel
theorem d_Alu_multiplied_35 : decode b_Alu_multiplied 35 = .ok (.lshr, 1) := by decide +kernel
theorem d_Alu_multiplied_36 : decode b_Alu_multiplied 36 = .ok (.l2i, 1) := by decide +kernel
theorem d_Alu_multiplied_37 : decode b_Alu_multiplied 37 = .ok (.ireturn, 1) := by decide +kernel
theorem d_Alu_multiplied_38 : decode b_Alu_multiplied 38 = .ok (.iload_n 1, 1) := by decide +kernel
theorem d_Alu_multiplied_39 : decode b_Alu_multiplied 39 = .ok (.i2l, 1) := by decide +kernel
theorem d_Alu_multiplied_40 : decode b_Alu_multiplied 40 = .ok (.iload_n 2, 1) := by decide +kernel
theorem d_Alu_multiplied_41 : decode b_Alu_multiplied 41 = .ok (.i2l, 1) := by decide +kernel
theorem d_Alu_multiplied_42 : decode b_Alu_multiplied 42 = .ok (.ldc2_w 16, 3) := by decide +kernel
theorem d_Alu_multiplied_45 : decode b_Alu_multiplied 45 = .ok (.land, 1) := by decide +kernel
theorem d_Alu_multiplied_46 : decode b_Alu_multiplied 46 = .ok (.lmul, 1) := by decide +kernel
theorem d_Alu_multiplied_47 : decode b_Alu_multiplied 47 = .ok (.bipush 32, 2) := by decide +kernel
theorem d_Alu_multiplied_49 : decode b_Alu_multiplied 49 = .ok (.lshr, 1) := by decide +kernel
theorem d_Alu_multiplied_50 : decode b_Alu_multiplied 50 = .ok (.l2i, 1) := by decide +kernel
theorem d_Alu_multiplied_51 : decode b_Alu_multiplied 51 = .ok (.ireturn, 1) := by decide +kernel
theorem d_Alu_multiplied_52 : decode b_Alu_multiplied 52 = .ok (.iload_n 1, 1) := by decide +kernel
theorem d_Alu_multiplied_53 : decode b_Alu_multiplied 53 = .ok (.i2l, 1) := by decide +kernel
theorem d_Alu_multiplied_54 : decode b_Alu_multiplied 54 = .ok (.ldc2_w 16, 3) := by decide +kernel
theorem d_Alu_multiplied_57 : decode b_Alu_multiplied 57 = .ok (.land, 1) := by decide +kernel
theorem d_Alu_multiplied_58 : decode b_Alu_multiplied 58 = .ok (.iload_n 2, 1) := by decide +kernel
theorem d_Alu_multiplied_59 : decode b_Alu_multiplied 59 = .ok (.i2l, 1) := by decide +kernel
theorem d_Alu_multiplied_60 : decode b_Alu_multiplied 60 = .ok (.ldc2_w 16, 3) := by decide +kernel
theorem d_Alu_multiplied_63 : decode b_Alu_multiplied 63 = .ok (.land, 1) := by decide +kernel
theorem d_Alu_multiplied_64 : decode b_Alu_multiplied 64 = .ok (.lmul, 1) := by decide +kernel
theorem d_Alu_multiplied_65 : decode b_Alu_multiplied 65 = .ok (.bipush 32, 2) := by decide +kernel
theorem d_Alu_multiplied_67 : decode b_Alu_multiplied 67 = .ok (.lshr, 1) := by decide +kernel
theorem d_Alu_multiplied_68 : decode b_Alu_multiplied 68 = .ok (.l2i, 1) := by decide +kernel
theorem d_Alu_multiplied_69 : decode b_Alu_multiplied 69 = .ok (.ireturn, 1) := by decide +kernel
theorem d_Alu_multiplied_70 : decode b_Alu_multiplied 70 = .ok (.iload_n 1, 1) := by decide +kernel
theorem d_Alu_multiplied_71 : decode b_Alu_multiplied 71 = .ok (.iload_n 2, 1) := by decide +kernel
theorem d_Alu_multiplied_72 : decode b_Alu_multiplied 72 = .ok (.imul, 1) := by decide +kernel
theorem d_Alu_multiplied_73 : decode b_Alu_multiplied 73 = .ok (.ireturn, 1) := by decide +kernel
theorem d_Alu_divided_0 : decode b_Alu_divided 0 = .ok (.iload_n 2, 1) := by decide +kernel
theorem d_Alu_divided_1 : decode b_Alu_divided 1 = .ok (.ifCond .ne 15, 3) := by decide +kernel
theorem d_Alu_divided_4 : decode b_Alu_divided 4 = .ok (.iload_n 0, 1) := by decide +kernel
theorem d_Alu_divided_5 : decode b_Alu_divided 5 = .ok (.bipush 6, 2) := by decide +kernel
theorem d_Alu_divided_7 : decode b_Alu_divided 7 = .ok (.if_icmp .ge 7, 3) := by decide +kernel
theorem d_Alu_divided_10 : decode b_Alu_divided 10 = .ok (.iconst (-1), 1) := by decide +kernel
theorem d_Alu_divided_11 : decode b_Alu_divided 11 = .ok (.goto 4, 3) := by decide +kernel
theorem d_Alu_divided_14 : decode b_Alu_divided 14 = .ok (.iload_n 1, 1) := by decide +kernel
theorem d_Alu_divided_15 : decode b_Alu_divided 15 = .ok (.ireturn, 1) := by decide +kernel
theorem d_Alu_divided_16 : decode b_Alu_divided 16 = .ok (.iload_n 0, 1) := by decide +kernel
theorem d_Alu_divided_17 : decode b_Alu_divided 17 = .ok (.tableswitch 50 4 6 #[27, 31, 46], 27) := by decide +kernel
theorem d_Alu_divided_44 : decode b_Alu_divided 44 = .ok (.iload_n 1, 1) := by decide +kernel
theorem d_Alu_divided_45 : decode b_Alu_divided 45 = .ok (.iload_n 2, 1) := by decide +kernel
theorem d_Alu_divided_46 : decode b_Alu_divided 46 = .ok (.idiv, 1) := by decide +kernel
theorem d_Alu_divided_47 : decode b_Alu_divided 47 = .ok (.ireturn, 1) := by decide +kernel
theorem d_Alu_divided_48 : decode b_Alu_divided 48 = .ok (.iload_n 1, 1) := by decide +kernel
theorem d_Alu_divided_49 : decode b_Alu_divided 49 = .ok (.i2l, 1) := by decide +kernel
theorem d_Alu_divided_50 : decode b_Alu_divided 50 = .ok (.ldc2_w 16, 3) := by decide +kernel
theorem d_Alu_divided_53 : decode b_Alu_divided 53 = .ok (.land, 1) := by decide +kernel
theorem d_Alu_divided_54 : decode b_Alu_divided 54 = .ok (.iload_n 2, 1) := by decide +kernel
theorem d_Alu_divided_55 : decode b_Alu_divided 55 = .ok (.i2l, 1) := by decide +kernel
theorem d_Alu_divided_56 : decode b_Alu_divided 56 = .ok (.ldc2_w 16, 3) := by decide +kernel
theorem d_Alu_divided_59 : decode b_Alu_divided 59 = .ok (.land, 1) := by decide +kernel
theorem d_Alu_divided_60 : decode b_Alu_divided 60 = .ok (.ldiv, 1) := by decide +kernel
theorem d_Alu_divided_61 : decode b_Alu_divided 61 = .ok (.l2i, 1) := by decide +kernel
theorem d_Alu_divided_62 : decode b_Alu_divided 62 = .ok (.ireturn, 1) := by decide +kernel
theorem d_Alu_divided_63 : decode b_Alu_divided 63 = .ok (.iload_n 1, 1) := by decide +kernel
theorem d_Alu_divided_64 : decode b_Alu_divided 64 = .ok (.iload_n 2, 1) := by decide +kernel
theorem d_Alu_divided_65 : decode b_Alu_divided 65 = .ok (.irem, 1) := by decide +kernel
theorem d_Alu_divided_66 : decode b_Alu_divided 66 = .ok (.ireturn, 1) := by decide +kernel
theorem d_Alu_divided_67 : decode b_Alu_divided 67 = .ok (.iload_n 1, 1) := by decide +kernel
theorem d_Alu_divided_68 : decode b_Alu_divided 68 = .ok (.i2l, 1) := by decide +kernel
theorem d_Alu_divided_69 : decode b_Alu_divided 69 = .ok (.ldc2_w 16, 3) := by decide +kernel
theorem d_Alu_divided_72 : decode b_Alu_divided 72 = .ok (.land, 1) := by decide +kernel
theorem d_Alu_divided_73 : decode b_Alu_divided 73 = .ok (.iload_n 2, 1) := by decide +kernel
theorem d_Alu_divided_74 : decode b_Alu_divided 74 = .ok (.i2l, 1) := by decide +kernel
theorem d_Alu_divided_75 : decode b_Alu_divided 75 = .ok (.ldc2_w 16, 3) := by decide +kernel
theorem d_Alu_divided_78 : decode b_Alu_divided 78 = .ok (.land, 1) := by decide +kernel
theorem d_Alu_divided_79 : decode b_Alu_divided 79 = .ok (.lrem, 1) := by decide +kernel
theorem d_Alu_divided_80 : decode b_Alu_divided 80 = .ok (.l2i, 1) := by decide +kernel
theorem d_Alu_divided_81 : decode b_Alu_divided 81 = .ok (.ireturn, 1) := by decide +kernel
theorem d_Alu_branches_0 : decode b_Alu_branches 0 = .ok (.iload_n 0, 1) := by decide +kernel
theorem d_Alu_branches_1 : decode b_Alu_branches 1 = .ok (.tableswitch 93 0 6 #[43, 54, 93, 93, 65, 76, 87], 43) := by decide +kernel
theorem d_Alu_branches_44 : decode b_Alu_branches 44 = .ok (.iload_n 1, 1) := by decide +kernel
theorem d_Alu_branches_45 : decode b_Alu_branches 45 = .ok (.iload_n 2, 1) := by decide +kernel
theorem d_Alu_branches_46 : decode b_Alu_branches 46 = .ok (.if_icmp .ne 7, 3) := by decide +kernel
theorem d_Alu_branches_49 : decode b_Alu_branches 49 = .ok (.iconst 1, 1) := by decide +kernel
theorem d_Alu_branches_50 : decode b_Alu_branches 50 = .ok (.goto 4, 3) := by decide +kernel
theorem d_Alu_branches_53 : decode b_Alu_branches 53 = .ok (.iconst 0, 1) := by decide +kernel
theorem d_Alu_branches_54 : decode b_Alu_branches 54 = .ok (.ireturn, 1) := by decide +kernel
theorem d_Alu_branches_55 : decode b_Alu_branches 55 = .ok (.iload_n 1, 1) := by decide +kernel
theorem d_Alu_branches_56 : decode b_Alu_branches 56 = .ok (.iload_n 2, 1) := by decide +kernel
theorem d_Alu_branches_57 : decode b_Alu_branches 57 = .ok (.if_icmp .eq 7, 3) := by decide +kernel
theorem d_Alu_branches_60 : decode b_Alu_branches 60 = .ok (.iconst 1, 1) := by decide +kernel
theorem d_Alu_branches_61 : decode b_Alu_branches 61 = .ok (.goto 4, 3) := by decide +kernel
theorem d_Alu_branches_64 : decode b_Alu_branches 64 = .ok (.iconst 0, 1) := by decide +kernel
theorem d_Alu_branches_65 : decode b_Alu_branches 65 = .ok (.ireturn, 1) := by decide +kernel
theorem d_Alu_branches_66 : decode b_Alu_branches 66 = .ok (.iload_n 1, 1) := by decide +kernel
theorem d_Alu_branches_67 : decode b_Alu_branches 67 = .ok (.iload_n 2, 1) := by decide +kernel
theorem d_Alu_branches_68 : decode b_Alu_branches 68 = .ok (.if_icmp .ge 7, 3) := by decide +kernel
theorem d_Alu_branches_71 : decode b_Alu_branches 71 = .ok (.iconst 1, 1) := by decide +kernel
theorem d_Alu_branches_72 : decode b_Alu_branches 72 = .ok (.goto 4, 3) := by decide +kernel
theorem d_Alu_branches_75 : decode b_Alu_branches 75 = .ok (.iconst 0, 1) := by decide +kernel
theorem d_Alu_branches_76 : decode b_Alu_branches 76 = .ok (.ireturn, 1) := by decide +kernel
theorem d_Alu_branches_77 : decode b_Alu_branches 77 = .ok (.iload_n 1, 1) := by decide +kernel
theorem d_Alu_branches_78 : decode b_Alu_branches 78 = .ok (.iload_n 2, 1) := by decide +kernel
theorem d_Alu_branches_79 : decode b_Alu_branches 79 = .ok (.if_icmp .lt 7, 3) := by decide +kernel
theorem d_Alu_branches_82 : decode b_Alu_branches 82 = .ok (.iconst 1, 1) := by decide +kernel
theorem d_Alu_branches_83 : decode b_Alu_branches 83 = .ok (.goto 4, 3) := by decide +kernel
theorem d_Alu_branches_86 : decode b_Alu_branches 86 = .ok (.iconst 0, 1) := by decide +kernel
theorem d_Alu_branches_87 : decode b_Alu_branches 87 = .ok (.ireturn, 1) := by decide +kernel
theorem d_Alu_branches_88 : decode b_Alu_branches 88 = .ok (.iload_n 1, 1) := by decide +kernel
theorem d_Alu_branches_89 : decode b_Alu_branches 89 = .ok (.iload_n 2, 1) := by decide +kernel
theorem d_Alu_branches_90 : decode b_Alu_branches 90 = .ok (.invokestatic 10, 3) := by decide +kernel
theorem d_Alu_branches_93 : decode b_Alu_branches 93 = .ok (.ireturn, 1) := by decide +kernel
theorem d_Alu_branches_94 : decode b_Alu_branches 94 = .ok (.iload_n 1, 1) := by decide +kernel
theorem d_Alu_branches_95 : decode b_Alu_branches 95 = .ok (.iload_n 2, 1) := by decide +kernel
theorem d_Alu_branches_96 : decode b_Alu_branches 96 = .ok (.invokestatic 10, 3) := by decide +kernel
theorem d_Alu_branches_99 : decode b_Alu_branches 99 = .ok (.ifCond .ne 7, 3) := by decide +kernel
theorem d_Alu_branches_102 : decode b_Alu_branches 102 = .ok (.iconst 1, 1) := by decide +kernel
theorem d_Alu_branches_103 : decode b_Alu_branches 103 = .ok (.goto 4, 3) := by decide +kernel
theorem d_Alu_branches_106 : decode b_Alu_branches 106 = .ok (.iconst 0, 1) := by decide +kernel
theorem d_Alu_branches_107 : decode b_Alu_branches 107 = .ok (.ireturn, 1) := by decide +kernel
theorem d_Field_branchOffset_0 : decode b_Field_branchOffset 0 = .ok (.iload_n 0, 1) := by decide +kernel
theorem d_Field_branchOffset_1 : decode b_Field_branchOffset 1 = .ok (.bipush 31, 2) := by decide +kernel
theorem d_Field_branchOffset_3 : decode b_Field_branchOffset 3 = .ok (.ishr, 1) := by decide +kernel
theorem d_Field_branchOffset_4 : decode b_Field_branchOffset 4 = .ok (.bipush 12, 2) := by decide +kernel
theorem d_Field_branchOffset_6 : decode b_Field_branchOffset 6 = .ok (.ishl, 1) := by decide +kernel
theorem d_Field_branchOffset_7 : decode b_Field_branchOffset 7 = .ok (.iload_n 0, 1) := by decide +kernel
theorem d_Field_branchOffset_8 : decode b_Field_branchOffset 8 = .ok (.bipush 25, 2) := by decide +kernel
theorem d_Field_branchOffset_10 : decode b_Field_branchOffset 10 = .ok (.iushr, 1) := by decide +kernel
theorem d_Field_branchOffset_11 : decode b_Field_branchOffset 11 = .ok (.bipush 63, 2) := by decide +kernel
theorem d_Field_branchOffset_13 : decode b_Field_branchOffset 13 = .ok (.iand, 1) := by decide +kernel
theorem d_Field_branchOffset_14 : decode b_Field_branchOffset 14 = .ok (.iconst 5, 1) := by decide +kernel
theorem d_Field_branchOffset_15 : decode b_Field_branchOffset 15 = .ok (.ishl, 1) := by decide +kernel
theorem d_Field_branchOffset_16 : decode b_Field_branchOffset 16 = .ok (.ior, 1) := by decide +kernel
theorem d_Field_branchOffset_17 : decode b_Field_branchOffset 17 = .ok (.iload_n 0, 1) := by decide +kernel
theorem d_Field_branchOffset_18 : decode b_Field_branchOffset 18 = .ok (.bipush 8, 2) := by decide +kernel
theorem d_Field_branchOffset_20 : decode b_Field_branchOffset 20 = .ok (.iushr, 1) := by decide +kernel
theorem d_Field_branchOffset_21 : decode b_Field_branchOffset 21 = .ok (.bipush 15, 2) := by decide +kernel
theorem d_Field_branchOffset_23 : decode b_Field_branchOffset 23 = .ok (.iand, 1) := by decide +kernel
theorem d_Field_branchOffset_24 : decode b_Field_branchOffset 24 = .ok (.iconst 1, 1) := by decide +kernel
theorem d_Field_branchOffset_25 : decode b_Field_branchOffset 25 = .ok (.ishl, 1) := by decide +kernel
theorem d_Field_branchOffset_26 : decode b_Field_branchOffset 26 = .ok (.ior, 1) := by decide +kernel
theorem d_Field_branchOffset_27 : decode b_Field_branchOffset 27 = .ok (.iload_n 0, 1) := by decide +kernel
theorem d_Field_branchOffset_28 : decode b_Field_branchOffset 28 = .ok (.bipush 7, 2) := by decide +kernel
theorem d_Field_branchOffset_30 : decode b_Field_branchOffset 30 = .ok (.iushr, 1) := by decide +kernel
theorem d_Field_branchOffset_31 : decode b_Field_branchOffset 31 = .ok (.iconst 1, 1) := by decide +kernel
theorem d_Field_branchOffset_32 : decode b_Field_branchOffset 32 = .ok (.iand, 1) := by decide +kernel
theorem d_Field_branchOffset_33 : decode b_Field_branchOffset 33 = .ok (.bipush 11, 2) := by decide +kernel
theorem d_Field_branchOffset_35 : decode b_Field_branchOffset 35 = .ok (.ishl, 1) := by decide +kernel
theorem d_Field_branchOffset_36 : decode b_Field_branchOffset 36 = .ok (.ior, 1) := by decide +kernel
theorem d_Field_branchOffset_37 : decode b_Field_branchOffset 37 = .ok (.ireturn, 1) := by decide +kernel
theorem d_Field_jumpOffset_0 : decode b_Field_jumpOffset 0 = .ok (.iload_n 0, 1) := by decide +kernel
theorem d_Field_jumpOffset_1 : decode b_Field_jumpOffset 1 = .ok (.bipush 31, 2) := by decide +kernel
theorem d_Field_jumpOffset_3 : decode b_Field_jumpOffset 3 = .ok (.ishr, 1) := by decide +kernel
theorem d_Field_jumpOffset_4 : decode b_Field_jumpOffset 4 = .ok (.bipush 20, 2) := by decide +kernel
theorem d_Field_jumpOffset_6 : decode b_Field_jumpOffset 6 = .ok (.ishl, 1) := by decide +kernel
theorem d_Field_jumpOffset_7 : decode b_Field_jumpOffset 7 = .ok (.iload_n 0, 1) := by decide +kernel
theorem d_Field_jumpOffset_8 : decode b_Field_jumpOffset 8 = .ok (.bipush 21, 2) := by decide +kernel
theorem d_Field_jumpOffset_10 : decode b_Field_jumpOffset 10 = .ok (.iushr, 1) := by decide +kernel
theorem d_Field_jumpOffset_11 : decode b_Field_jumpOffset 11 = .ok (.sipush 1023, 3) := by decide +kernel
theorem d_Field_jumpOffset_14 : decode b_Field_jumpOffset 14 = .ok (.iand, 1) := by decide +kernel
theorem d_Field_jumpOffset_15 : decode b_Field_jumpOffset 15 = .ok (.iconst 1, 1) := by decide +kernel
theorem d_Field_jumpOffset_16 : decode b_Field_jumpOffset 16 = .ok (.ishl, 1) := by decide +kernel
theorem d_Field_jumpOffset_17 : decode b_Field_jumpOffset 17 = .ok (.ior, 1) := by decide +kernel
theorem d_Field_jumpOffset_18 : decode b_Field_jumpOffset 18 = .ok (.iload_n 0, 1) := by decide +kernel
theorem d_Field_jumpOffset_19 : decode b_Field_jumpOffset 19 = .ok (.bipush 20, 2) := by decide +kernel
theorem d_Field_jumpOffset_21 : decode b_Field_jumpOffset 21 = .ok (.iushr, 1) := by decide +kernel
theorem d_Field_jumpOffset_22 : decode b_Field_jumpOffset 22 = .ok (.iconst 1, 1) := by decide +kernel
theorem d_Field_jumpOffset_23 : decode b_Field_jumpOffset 23 = .ok (.iand, 1) := by decide +kernel
theorem d_Field_jumpOffset_24 : decode b_Field_jumpOffset 24 = .ok (.bipush 11, 2) := by decide +kernel
theorem d_Field_jumpOffset_26 : decode b_Field_jumpOffset 26 = .ok (.ishl, 1) := by decide +kernel
theorem d_Field_jumpOffset_27 : decode b_Field_jumpOffset 27 = .ok (.ior, 1) := by decide +kernel
theorem d_Field_jumpOffset_28 : decode b_Field_jumpOffset 28 = .ok (.iload_n 0, 1) := by decide +kernel
theorem d_Field_jumpOffset_29 : decode b_Field_jumpOffset 29 = .ok (.ldc 13, 2) := by decide +kernel
theorem d_Field_jumpOffset_31 : decode b_Field_jumpOffset 31 = .ok (.iand, 1) := by decide +kernel
theorem d_Field_jumpOffset_32 : decode b_Field_jumpOffset 32 = .ok (.ior, 1) := by decide +kernel
theorem d_Field_jumpOffset_33 : decode b_Field_jumpOffset 33 = .ok (.ireturn, 1) := by decide +kernel
end
section
theorem d_Csrs_restart_0 : decode b_Csrs_restart 0 = .ok (.aload_n 0, 1) := by decide +kernel
theorem d_Csrs_restart_1 : decode b_Csrs_restart 1 = .ok (.iconst 0, 1) := by decide +kernel
theorem d_Csrs_restart_2 : decode b_Csrs_restart 2 = .ok (.putfield 15, 3) := by decide +kernel
theorem d_Csrs_restart_5 : decode b_Csrs_restart 5 = .ok (.aload_n 0, 1) := by decide +kernel
theorem d_Csrs_restart_6 : decode b_Csrs_restart 6 = .ok (.iconst 0, 1) := by decide +kernel
theorem d_Csrs_restart_7 : decode b_Csrs_restart 7 = .ok (.putfield 18, 3) := by decide +kernel
theorem d_Csrs_restart_10 : decode b_Csrs_restart 10 = .ok (.aload_n 0, 1) := by decide +kernel
theorem d_Csrs_restart_11 : decode b_Csrs_restart 11 = .ok (.iconst 0, 1) := by decide +kernel
theorem d_Csrs_restart_12 : decode b_Csrs_restart 12 = .ok (.putfield 21, 3) := by decide +kernel
theorem d_Csrs_restart_15 : decode b_Csrs_restart 15 = .ok (.aload_n 0, 1) := by decide +kernel
theorem d_Csrs_restart_16 : decode b_Csrs_restart 16 = .ok (.iconst 0, 1) := by decide +kernel
theorem d_Csrs_restart_17 : decode b_Csrs_restart 17 = .ok (.putfield 24, 3) := by decide +kernel
theorem d_Csrs_restart_20 : decode b_Csrs_restart 20 = .ok (.aload_n 0, 1) := by decide +kernel
theorem d_Csrs_restart_21 : decode b_Csrs_restart 21 = .ok (.iconst 0, 1) := by decide +kernel
theorem d_Csrs_restart_22 : decode b_Csrs_restart 22 = .ok (.putfield 27, 3) := by decide +kernel
theorem d_Csrs_restart_25 : decode b_Csrs_restart 25 = .ok (.aload_n 0, 1) := by decide +kernel
theorem d_Csrs_restart_26 : decode b_Csrs_restart 26 = .ok (.iconst 0, 1) := by decide +kernel
theorem d_Csrs_restart_27 : decode b_Csrs_restart 27 = .ok (.putfield 30, 3) := by decide +kernel
theorem d_Csrs_restart_30 : decode b_Csrs_restart 30 = .ok (.aload_n 0, 1) := by decide +kernel
theorem d_Csrs_restart_31 : decode b_Csrs_restart 31 = .ok (.iconst 0, 1) := by decide +kernel
theorem d_Csrs_restart_32 : decode b_Csrs_restart 32 = .ok (.putfield 33, 3) := by decide +kernel
theorem d_Csrs_restart_35 : decode b_Csrs_restart 35 = .ok (.aload_n 0, 1) := by decide +kernel
theorem d_Csrs_restart_36 : decode b_Csrs_restart 36 = .ok (.iconst 0, 1) := by decide +kernel
theorem d_Csrs_restart_37 : decode b_Csrs_restart 37 = .ok (.putfield 36, 3) := by decide +kernel
theorem d_Csrs_restart_40 : decode b_Csrs_restart 40 = .ok (.aload_n 0, 1) := by decide +kernel
theorem d_Csrs_restart_41 : decode b_Csrs_restart 41 = .ok (.iconst 0, 1) := by decide +kernel
theorem d_Csrs_restart_42 : decode b_Csrs_restart 42 = .ok (.putfield 39, 3) := by decide +kernel
theorem d_Csrs_restart_45 : decode b_Csrs_restart 45 = .ok (.aload_n 0, 1) := by decide +kernel
theorem d_Csrs_restart_46 : decode b_Csrs_restart 46 = .ok (.iconst 0, 1) := by decide +kernel
theorem d_Csrs_restart_47 : decode b_Csrs_restart 47 = .ok (.putfield 42, 3) := by decide +kernel
theorem d_Csrs_restart_50 : decode b_Csrs_restart 50 = .ok (.aload_n 0, 1) := by decide +kernel
theorem d_Csrs_restart_51 : decode b_Csrs_restart 51 = .ok (.iconst 0, 1) := by decide +kernel
theorem d_Csrs_restart_52 : decode b_Csrs_restart 52 = .ok (.putfield 45, 3) := by decide +kernel
theorem d_Csrs_restart_55 : decode b_Csrs_restart 55 = .ok (.aload_n 0, 1) := by decide +kernel
theorem d_Csrs_restart_56 : decode b_Csrs_restart 56 = .ok (.iconst 0, 1) := by decide +kernel
theorem d_Csrs_restart_57 : decode b_Csrs_restart 57 = .ok (.putfield 48, 3) := by decide +kernel
theorem d_Csrs_restart_60 : decode b_Csrs_restart 60 = .ok (.aload_n 0, 1) := by decide +kernel
theorem d_Csrs_restart_61 : decode b_Csrs_restart 61 = .ok (.iconst 0, 1) := by decide +kernel
theorem d_Csrs_restart_62 : decode b_Csrs_restart 62 = .ok (.putfield 51, 3) := by decide +kernel
theorem d_Csrs_restart_65 : decode b_Csrs_restart 65 = .ok (.aload_n 0, 1) := by decide +kernel
theorem d_Csrs_restart_66 : decode b_Csrs_restart 66 = .ok (.iconst 0, 1) := by decide +kernel
theorem d_Csrs_restart_67 : decode b_Csrs_restart 67 = .ok (.putfield 54, 3) := by decide +kernel
theorem d_Csrs_restart_70 : decode b_Csrs_restart 70 = .ok (.aload_n 0, 1) := by decide +kernel
theorem d_Csrs_restart_71 : decode b_Csrs_restart 71 = .ok (.iconst 0, 1) := by decide +kernel
theorem d_Csrs_restart_72 : decode b_Csrs_restart 72 = .ok (.putfield 57, 3) := by decide +kernel
theorem d_Csrs_restart_75 : decode b_Csrs_restart 75 = .ok (.aload_n 0, 1) := by decide +kernel
theorem d_Csrs_restart_76 : decode b_Csrs_restart 76 = .ok (.iconst 0, 1) := by decide +kernel
theorem d_Csrs_restart_77 : decode b_Csrs_restart 77 = .ok (.putfield 60, 3) := by decide +kernel
theorem d_Csrs_restart_80 : decode b_Csrs_restart 80 = .ok (.return_, 1) := by decide +kernel
theorem d_Csrs_has_0 : decode b_Csrs_has 0 = .ok (.aload_n 0, 1) := by decide +kernel
theorem d_Csrs_has_1 : decode b_Csrs_has 1 = .ok (.getfield 15, 3) := by decide +kernel
theorem d_Csrs_has_4 : decode b_Csrs_has 4 = .ok (.iload_n 1, 1) := by decide +kernel
theorem d_Csrs_has_5 : decode b_Csrs_has 5 = .ok (.iand, 1) := by decide +kernel
theorem d_Csrs_has_6 : decode b_Csrs_has 6 = .ok (.ifCond .eq 7, 3) := by decide +kernel
theorem d_Csrs_has_9 : decode b_Csrs_has 9 = .ok (.iconst 1, 1) := by decide +kernel
theorem d_Csrs_has_10 : decode b_Csrs_has 10 = .ok (.goto 4, 3) := by decide +kernel
theorem d_Csrs_has_13 : decode b_Csrs_has 13 = .ok (.iconst 0, 1) := by decide +kernel
theorem d_Csrs_has_14 : decode b_Csrs_has 14 = .ok (.ireturn, 1) := by decide +kernel
theorem d_Csrs_firstOf_0 : decode b_Csrs_firstOf 0 = .ok (.iconst 0, 1) := by decide +kernel
theorem d_Csrs_firstOf_1 : decode b_Csrs_firstOf 1 = .ok (.istore_n 1, 1) := by decide +kernel
theorem d_Csrs_firstOf_2 : decode b_Csrs_firstOf 2 = .ok (.iload_n 1, 1) := by decide +kernel
theorem d_Csrs_firstOf_3 : decode b_Csrs_firstOf 3 = .ok (.getstatic 96, 3) := by decide +kernel
theorem d_Csrs_firstOf_6 : decode b_Csrs_firstOf 6 = .ok (.arraylength, 1) := by decide +kernel
theorem d_Csrs_firstOf_7 : decode b_Csrs_firstOf 7 = .ok (.if_icmp .ge 27, 3) := by decide +kernel
theorem d_Csrs_firstOf_10 : decode b_Csrs_firstOf 10 = .ok (.iload_n 0, 1) := by decide +kernel
theorem d_Csrs_firstOf_11 : decode b_Csrs_firstOf 11 = .ok (.getstatic 96, 3) := by decide +kernel
theorem d_Csrs_firstOf_14 : decode b_Csrs_firstOf 14 = .ok (.iload_n 1, 1) := by decide +kernel
theorem d_Csrs_firstOf_15 : decode b_Csrs_firstOf 15 = .ok (.iaload, 1) := by decide +kernel
theorem d_Csrs_firstOf_16 : decode b_Csrs_firstOf 16 = .ok (.ishr, 1) := by decide +kernel
theorem d_Csrs_firstOf_17 : decode b_Csrs_firstOf 17 = .ok (.iconst 1, 1) := by decide +kernel
theorem d_Csrs_firstOf_18 : decode b_Csrs_firstOf 18 = .ok (.iand, 1) := by decide +kernel
theorem d_Csrs_firstOf_19 : decode b_Csrs_firstOf 19 = .ok (.ifCond .eq 9, 3) := by decide +kernel
theorem d_Csrs_firstOf_22 : decode b_Csrs_firstOf 22 = .ok (.getstatic 96, 3) := by decide +kernel
theorem d_Csrs_firstOf_25 : decode b_Csrs_firstOf 25 = .ok (.iload_n 1, 1) := by decide +kernel
theorem d_Csrs_firstOf_26 : decode b_Csrs_firstOf 26 = .ok (.iaload, 1) := by decide +kernel
theorem d_Csrs_firstOf_27 : decode b_Csrs_firstOf 27 = .ok (.ireturn, 1) := by decide +kernel
theorem d_Csrs_firstOf_28 : decode b_Csrs_firstOf 28 = .ok (.iinc 1 1, 3) := by decide +kernel
theorem d_Csrs_firstOf_31 : decode b_Csrs_firstOf 31 = .ok (.goto (-29), 3) := by decide +kernel
theorem d_Csrs_firstOf_34 : decode b_Csrs_firstOf 34 = .ok (.iconst (-1), 1) := by decide +kernel
theorem d_Csrs_firstOf_35 : decode b_Csrs_firstOf 35 = .ok (.ireturn, 1) := by decide +kernel
theorem d_Csrs_dueInterrupt_0 : decode b_Csrs_dueInterrupt 0 = .ok (.aload_n 0, 1) := by decide +kernel
theorem d_Csrs_dueInterrupt_1 : decode b_Csrs_dueInterrupt 1 = .ok (.getfield 42, 3) := by decide +kernel
theorem d_Csrs_dueInterrupt_4 : decode b_Csrs_dueInterrupt 4 = .ok (.iload_n 2, 1) := by decide +kernel
theorem d_Csrs_dueInterrupt_5 : decode b_Csrs_dueInterrupt 5 = .ok (.ior, 1) := by decide +kernel
theorem d_Csrs_dueInterrupt_6 : decode b_Csrs_dueInterrupt 6 = .ok (.aload_n 0, 1) := by decide +kernel
theorem d_Csrs_dueInterrupt_7 : decode b_Csrs_dueInterrupt 7 = .ok (.getfield 24, 3) := by decide +kernel
theorem d_Csrs_dueInterrupt_10 : decode b_Csrs_dueInterrupt 10 = .ok (.iand, 1) := by decide +kernel
theorem d_Csrs_dueInterrupt_11 : decode b_Csrs_dueInterrupt 11 = .ok (.istore_n 3, 1) := by decide +kernel
theorem d_Csrs_dueInterrupt_12 : decode b_Csrs_dueInterrupt 12 = .ok (.iload_n 3, 1) := by decide +kernel
theorem d_Csrs_dueInterrupt_13 : decode b_Csrs_dueInterrupt 13 = .ok (.aload_n 0, 1) := by decide +kernel
theorem d_Csrs_dueInterrupt_14 : decode b_Csrs_dueInterrupt 14 = .ok (.getfield 21, 3) := by decide +kernel
theorem d_Csrs_dueInterrupt_17 : decode b_Csrs_dueInterrupt 17 = .ok (.iconst (-1), 1) := by decide +kernel
theorem d_Csrs_dueInterrupt_18 : decode b_Csrs_dueInterrupt 18 = .ok (.ixor, 1) := by decide +kernel
theorem d_Csrs_dueInterrupt_19 : decode b_Csrs_dueInterrupt 19 = .ok (.iand, 1) := by decide +kernel
theorem d_Csrs_dueInterrupt_20 : decode b_Csrs_dueInterrupt 20 = .ok (.istore 4, 2) := by decide +kernel
theorem d_Csrs_dueInterrupt_22 : decode b_Csrs_dueInterrupt 22 = .ok (.iload 4, 2) := by decide +kernel
theorem d_Csrs_dueInterrupt_24 : decode b_Csrs_dueInterrupt 24 = .ok (.ifCond .eq 23, 3) := by decide +kernel
theorem d_Csrs_dueInterrupt_27 : decode b_Csrs_dueInterrupt 27 = .ok (.iload_n 1, 1) := by decide +kernel
theorem d_Csrs_dueInterrupt_28 : decode b_Csrs_dueInterrupt 28 = .ok (.iconst 3, 1) := by decide +kernel
theorem d_Csrs_dueInterrupt_29 : decode b_Csrs_dueInterrupt 29 = .ok (.if_icmp .lt 12, 3) := by decide +kernel
theorem d_Csrs_dueInterrupt_32 : decode b_Csrs_dueInterrupt 32 = .ok (.aload_n 0, 1) := by decide +kernel
theorem d_Csrs_dueInterrupt_33 : decode b_Csrs_dueInterrupt 33 = .ok (.bipush 8, 2) := by decide +kernel
theorem d_Csrs_dueInterrupt_35 : decode b_Csrs_dueInterrupt 35 = .ok (.invokevirtual 90, 3) := by decide +kernel
theorem d_Csrs_dueInterrupt_38 : decode b_Csrs_dueInterrupt 38 = .ok (.ifCond .eq 9, 3) := by decide +kernel
theorem d_Csrs_dueInterrupt_41 : decode b_Csrs_dueInterrupt 41 = .ok (.iload 4, 2) := by decide +kernel
theorem d_Csrs_dueInterrupt_43 : decode b_Csrs_dueInterrupt 43 = .ok (.invokestatic 93, 3) := by decide +kernel
theorem d_Csrs_dueInterrupt_46 : decode b_Csrs_dueInterrupt 46 = .ok (.ireturn, 1) := by decide +kernel
theorem d_Csrs_dueInterrupt_47 : decode b_Csrs_dueInterrupt 47 = .ok (.iload_n 3, 1) := by decide +kernel
theorem d_Csrs_dueInterrupt_48 : decode b_Csrs_dueInterrupt 48 = .ok (.aload_n 0, 1) := by decide +kernel
theorem d_Csrs_dueInterrupt_49 : decode b_Csrs_dueInterrupt 49 = .ok (.getfield 21, 3) := by decide +kernel
theorem d_Csrs_dueInterrupt_52 : decode b_Csrs_dueInterrupt 52 = .ok (.iand, 1) := by decide +kernel
theorem d_Csrs_dueInterrupt_53 : decode b_Csrs_dueInterrupt 53 = .ok (.istore 5, 2) := by decide +kernel
theorem d_Csrs_dueInterrupt_55 : decode b_Csrs_dueInterrupt 55 = .ok (.iload 5, 2) := by decide +kernel
theorem d_Csrs_dueInterrupt_57 : decode b_Csrs_dueInterrupt 57 = .ok (.ifCond .eq 27, 3) := by decide +kernel
theorem d_Csrs_dueInterrupt_60 : decode b_Csrs_dueInterrupt 60 = .ok (.iload_n 1, 1) := by decide +kernel
theorem d_Csrs_dueInterrupt_61 : decode b_Csrs_dueInterrupt 61 = .ok (.iconst 1, 1) := by decide +kernel
theorem d_Csrs_dueInterrupt_62 : decode b_Csrs_dueInterrupt 62 = .ok (.if_icmp .lt 16, 3) := by decide +kernel
theorem d_Csrs_dueInterrupt_65 : decode b_Csrs_dueInterrupt 65 = .ok (.iload_n 1, 1) := by decide +kernel
theorem d_Csrs_dueInterrupt_66 : decode b_Csrs_dueInterrupt 66 = .ok (.iconst 1, 1) := by decide +kernel
theorem d_Csrs_dueInterrupt_67 : decode b_Csrs_dueInterrupt 67 = .ok (.if_icmp .ne 17, 3) := by decide +kernel
theorem d_Csrs_dueInterrupt_70 : decode b_Csrs_dueInterrupt 70 = .ok (.aload_n 0, 1) := by decide +kernel
theorem d_Csrs_dueInterrupt_71 : decode b_Csrs_dueInterrupt 71 = .ok (.iconst 2, 1) := by decide +kernel
theorem d_Csrs_dueInterrupt_72 : decode b_Csrs_dueInterrupt 72 = .ok (.invokevirtual 90, 3) := by decide +kernel
theorem d_Csrs_dueInterrupt_75 : decode b_Csrs_dueInterrupt 75 = .ok (.ifCond .eq 9, 3) := by decide +kernel
theorem d_Csrs_dueInterrupt_78 : decode b_Csrs_dueInterrupt 78 = .ok (.iload 5, 2) := by decide +kernel
theorem d_Csrs_dueInterrupt_80 : decode b_Csrs_dueInterrupt 80 = .ok (.invokestatic 93, 3) := by decide +kernel
theorem d_Csrs_dueInterrupt_83 : decode b_Csrs_dueInterrupt 83 = .ok (.ireturn, 1) := by decide +kernel
theorem d_Csrs_dueInterrupt_84 : decode b_Csrs_dueInterrupt 84 = .ok (.iconst (-1), 1) := by decide +kernel
theorem d_Csrs_dueInterrupt_85 : decode b_Csrs_dueInterrupt 85 = .ok (.ireturn, 1) := by decide +kernel
theorem d_Csrs_handsDownInterrupt_0 : decode b_Csrs_handsDownInterrupt 0 = .ok (.aload_n 0, 1) := by decide +kernel
theorem d_Csrs_handsDownInterrupt_1 : decode b_Csrs_handsDownInterrupt 1 = .ok (.getfield 21, 3) := by decide +kernel
theorem d_Csrs_handsDownInterrupt_4 : decode b_Csrs_handsDownInterrupt 4 = .ok (.iload_n 1, 1) := by decide +kernel
theorem d_Csrs_handsDownInterrupt_5 : decode b_Csrs_handsDownInterrupt 5 = .ok (.ishr, 1) := by decide +kernel
theorem d_Csrs_handsDownInterrupt_6 : decode b_Csrs_handsDownInterrupt 6 = .ok (.iconst 1, 1) := by decide +kernel
theorem d_Csrs_handsDownInterrupt_7 : decode b_Csrs_handsDownInterrupt 7 = .ok (.iand, 1) := by decide +kernel
theorem d_Csrs_handsDownInterrupt_8 : decode b_Csrs_handsDownInterrupt 8 = .ok (.ifCond .eq 7, 3) := by decide +kernel
theorem d_Csrs_handsDownInterrupt_11 : decode b_Csrs_handsDownInterrupt 11 = .ok (.iconst 1, 1) := by decide +kernel
theorem d_Csrs_handsDownInterrupt_12 : decode b_Csrs_handsDownInterrupt 12 = .ok (.goto 4, 3) := by decide +kernel
theorem d_Csrs_handsDownInterrupt_15 : decode b_Csrs_handsDownInterrupt 15 = .ok (.iconst 0, 1) := by decide +kernel
theorem d_Csrs_handsDownInterrupt_16 : decode b_Csrs_handsDownInterrupt 16 = .ok (.ireturn, 1) := by decide +kernel
theorem d_Csrs_enterSupervisor_0 : decode b_Csrs_enterSupervisor 0 = .ok (.aload_n 0, 1) := by decide +kernel
theorem d_Csrs_enterSupervisor_1 : decode b_Csrs_enterSupervisor 1 = .ok (.iload_n 1, 1) := by decide +kernel
theorem d_Csrs_enterSupervisor_2 : decode b_Csrs_enterSupervisor 2 = .ok (.putfield 48, 3) := by decide +kernel
theorem d_Csrs_enterSupervisor_5 : decode b_Csrs_enterSupervisor 5 = .ok (.aload_n 0, 1) := by decide +kernel
theorem d_Csrs_enterSupervisor_6 : decode b_Csrs_enterSupervisor 6 = .ok (.iload_n 2, 1) := by decide +kernel
theorem d_Csrs_enterSupervisor_7 : decode b_Csrs_enterSupervisor 7 = .ok (.putfield 54, 3) := by decide +kernel
theorem d_Csrs_enterSupervisor_10 : decode b_Csrs_enterSupervisor 10 = .ok (.aload_n 0, 1) := by decide +kernel
theorem d_Csrs_enterSupervisor_11 : decode b_Csrs_enterSupervisor 11 = .ok (.iload_n 3, 1) := by decide +kernel
theorem d_Csrs_enterSupervisor_12 : decode b_Csrs_enterSupervisor 12 = .ok (.putfield 57, 3) := by decide +kernel
theorem d_Csrs_enterSupervisor_15 : decode b_Csrs_enterSupervisor 15 = .ok (.aload_n 0, 1) := by decide +kernel
theorem d_Csrs_enterSupervisor_16 : decode b_Csrs_enterSupervisor 16 = .ok (.iconst 2, 1) := by decide +kernel
theorem d_Csrs_enterSupervisor_17 : decode b_Csrs_enterSupervisor 17 = .ok (.invokevirtual 90, 3) := by decide +kernel
theorem d_Csrs_enterSupervisor_20 : decode b_Csrs_enterSupervisor 20 = .ok (.ifCond .eq 8, 3) := by decide +kernel
theorem d_Csrs_enterSupervisor_23 : decode b_Csrs_enterSupervisor 23 = .ok (.bipush 32, 2) := by decide +kernel
theorem d_Csrs_enterSupervisor_25 : decode b_Csrs_enterSupervisor 25 = .ok (.goto 4, 3) := by decide +kernel
theorem d_Csrs_enterSupervisor_28 : decode b_Csrs_enterSupervisor 28 = .ok (.iconst 0, 1) := by decide +kernel
theorem d_Csrs_enterSupervisor_29 : decode b_Csrs_enterSupervisor 29 = .ok (.istore 5, 2) := by decide +kernel
theorem d_Csrs_enterSupervisor_31 : decode b_Csrs_enterSupervisor 31 = .ok (.iload 4, 2) := by decide +kernel
theorem d_Csrs_enterSupervisor_33 : decode b_Csrs_enterSupervisor 33 = .ok (.iconst 1, 1) := by decide +kernel
theorem d_Csrs_enterSupervisor_34 : decode b_Csrs_enterSupervisor 34 = .ok (.if_icmp .ne 9, 3) := by decide +kernel
theorem d_Csrs_enterSupervisor_37 : decode b_Csrs_enterSupervisor 37 = .ok (.sipush 256, 3) := by decide +kernel
theorem d_Csrs_enterSupervisor_40 : decode b_Csrs_enterSupervisor 40 = .ok (.goto 4, 3) := by decide +kernel
theorem d_Csrs_enterSupervisor_43 : decode b_Csrs_enterSupervisor 43 = .ok (.iconst 0, 1) := by decide +kernel
theorem d_Csrs_enterSupervisor_44 : decode b_Csrs_enterSupervisor 44 = .ok (.istore 6, 2) := by decide +kernel
theorem d_Csrs_enterSupervisor_46 : decode b_Csrs_enterSupervisor 46 = .ok (.aload_n 0, 1) := by decide +kernel
theorem d_Csrs_enterSupervisor_47 : decode b_Csrs_enterSupervisor 47 = .ok (.aload_n 0, 1) := by decide +kernel
theorem d_Csrs_enterSupervisor_48 : decode b_Csrs_enterSupervisor 48 = .ok (.getfield 15, 3) := by decide +kernel
theorem d_Csrs_enterSupervisor_51 : decode b_Csrs_enterSupervisor 51 = .ok (.sipush (-291), 3) := by decide +kernel
theorem d_Csrs_enterSupervisor_54 : decode b_Csrs_enterSupervisor 54 = .ok (.iand, 1) := by decide +kernel
theorem d_Csrs_enterSupervisor_55 : decode b_Csrs_enterSupervisor 55 = .ok (.iload 5, 2) := by decide +kernel
theorem d_Csrs_enterSupervisor_57 : decode b_Csrs_enterSupervisor 57 = .ok (.ior, 1) := by decide +kernel
theorem d_Csrs_enterSupervisor_58 : decode b_Csrs_enterSupervisor 58 = .ok (.iload 6, 2) := by decide +kernel
theorem d_Csrs_enterSupervisor_60 : decode b_Csrs_enterSupervisor 60 = .ok (.ior, 1) := by decide +kernel
theorem d_Csrs_enterSupervisor_61 : decode b_Csrs_enterSupervisor 61 = .ok (.putfield 15, 3) := by decide +kernel
theorem d_Csrs_enterSupervisor_64 : decode b_Csrs_enterSupervisor 64 = .ok (.aload_n 0, 1) := by decide +kernel
theorem d_Csrs_enterSupervisor_65 : decode b_Csrs_enterSupervisor 65 = .ok (.getfield 45, 3) := by decide +kernel
theorem d_Csrs_enterSupervisor_68 : decode b_Csrs_enterSupervisor 68 = .ok (.ireturn, 1) := by decide +kernel
theorem d_Csrs_enterMachine_0 : decode b_Csrs_enterMachine 0 = .ok (.aload_n 0, 1) := by decide +kernel
theorem d_Csrs_enterMachine_1 : decode b_Csrs_enterMachine 1 = .ok (.iload_n 1, 1) := by decide +kernel
theorem d_Csrs_enterMachine_2 : decode b_Csrs_enterMachine 2 = .ok (.putfield 30, 3) := by decide +kernel
theorem d_Csrs_enterMachine_5 : decode b_Csrs_enterMachine 5 = .ok (.aload_n 0, 1) := by decide +kernel
theorem d_Csrs_enterMachine_6 : decode b_Csrs_enterMachine 6 = .ok (.iload_n 2, 1) := by decide +kernel
theorem d_Csrs_enterMachine_7 : decode b_Csrs_enterMachine 7 = .ok (.putfield 36, 3) := by decide +kernel
theorem d_Csrs_enterMachine_10 : decode b_Csrs_enterMachine 10 = .ok (.aload_n 0, 1) := by decide +kernel
theorem d_Csrs_enterMachine_11 : decode b_Csrs_enterMachine 11 = .ok (.iload_n 3, 1) := by decide +kernel
theorem d_Csrs_enterMachine_12 : decode b_Csrs_enterMachine 12 = .ok (.putfield 39, 3) := by decide +kernel
theorem d_Csrs_enterMachine_15 : decode b_Csrs_enterMachine 15 = .ok (.aload_n 0, 1) := by decide +kernel
theorem d_Csrs_enterMachine_16 : decode b_Csrs_enterMachine 16 = .ok (.bipush 8, 2) := by decide +kernel
theorem d_Csrs_enterMachine_18 : decode b_Csrs_enterMachine 18 = .ok (.invokevirtual 90, 3) := by decide +kernel
theorem d_Csrs_enterMachine_21 : decode b_Csrs_enterMachine 21 = .ok (.ifCond .eq 9, 3) := by decide +kernel
theorem d_Csrs_enterMachine_24 : decode b_Csrs_enterMachine 24 = .ok (.sipush 128, 3) := by decide +kernel
theorem d_Csrs_enterMachine_27 : decode b_Csrs_enterMachine 27 = .ok (.goto 4, 3) := by decide +kernel
theorem d_Csrs_enterMachine_30 : decode b_Csrs_enterMachine 30 = .ok (.iconst 0, 1) := by decide +kernel
theorem d_Csrs_enterMachine_31 : decode b_Csrs_enterMachine 31 = .ok (.istore 5, 2) := by decide +kernel
theorem d_Csrs_enterMachine_33 : decode b_Csrs_enterMachine 33 = .ok (.aload_n 0, 1) := by decide +kernel
theorem d_Csrs_enterMachine_34 : decode b_Csrs_enterMachine 34 = .ok (.aload_n 0, 1) := by decide +kernel
theorem d_Csrs_enterMachine_35 : decode b_Csrs_enterMachine 35 = .ok (.getfield 15, 3) := by decide +kernel
theorem d_Csrs_enterMachine_38 : decode b_Csrs_enterMachine 38 = .ok (.sipush (-6281), 3) := by decide +kernel
theorem d_Csrs_enterMachine_41 : decode b_Csrs_enterMachine 41 = .ok (.iand, 1) := by decide +kernel
theorem d_Csrs_enterMachine_42 : decode b_Csrs_enterMachine 42 = .ok (.iload 5, 2) := by decide +kernel
theorem d_Csrs_enterMachine_44 : decode b_Csrs_enterMachine 44 = .ok (.ior, 1) := by decide +kernel
theorem d_Csrs_enterMachine_45 : decode b_Csrs_enterMachine 45 = .ok (.iload 4, 2) := by decide +kernel
theorem d_Csrs_enterMachine_47 : decode b_Csrs_enterMachine 47 = .ok (.bipush 11, 2) := by decide +kernel
theorem d_Csrs_enterMachine_49 : decode b_Csrs_enterMachine 49 = .ok (.ishl, 1) := by decide +kernel
theorem d_Csrs_enterMachine_50 : decode b_Csrs_enterMachine 50 = .ok (.ior, 1) := by decide +kernel
theorem d_Csrs_enterMachine_51 : decode b_Csrs_enterMachine 51 = .ok (.putfield 15, 3) := by decide +kernel
theorem d_Csrs_enterMachine_54 : decode b_Csrs_enterMachine 54 = .ok (.aload_n 0, 1) := by decide +kernel
theorem d_Csrs_enterMachine_55 : decode b_Csrs_enterMachine 55 = .ok (.getfield 27, 3) := by decide +kernel
theorem d_Csrs_enterMachine_58 : decode b_Csrs_enterMachine 58 = .ok (.ireturn, 1) := by decide +kernel
theorem d_Csrs_levelBefore_0 : decode b_Csrs_levelBefore 0 = .ok (.aload_n 0, 1) := by decide +kernel
theorem d_Csrs_levelBefore_1 : decode b_Csrs_levelBefore 1 = .ok (.getfield 15, 3) := by decide +kernel
theorem d_Csrs_levelBefore_4 : decode b_Csrs_levelBefore 4 = .ok (.sipush 6144, 3) := by decide +kernel
theorem d_Csrs_levelBefore_7 : decode b_Csrs_levelBefore 7 = .ok (.iand, 1) := by decide +kernel
theorem d_Csrs_levelBefore_8 : decode b_Csrs_levelBefore 8 = .ok (.bipush 11, 2) := by decide +kernel
theorem d_Csrs_levelBefore_10 : decode b_Csrs_levelBefore 10 = .ok (.ishr, 1) := by decide +kernel
theorem d_Csrs_levelBefore_11 : decode b_Csrs_levelBefore 11 = .ok (.ireturn, 1) := by decide +kernel
theorem d_Csrs_dataLevel_0 : decode b_Csrs_dataLevel 0 = .ok (.iload_n 1, 1) := by decide +kernel
theorem d_Csrs_dataLevel_1 : decode b_Csrs_dataLevel 1 = .ok (.iconst 3, 1) := by decide +kernel
theorem d_Csrs_dataLevel_2 : decode b_Csrs_dataLevel 2 = .ok (.if_icmp .ne 19, 3) := by decide +kernel
theorem d_Csrs_dataLevel_5 : decode b_Csrs_dataLevel 5 = .ok (.aload_n 0, 1) := by decide +kernel
theorem d_Csrs_dataLevel_6 : decode b_Csrs_dataLevel 6 = .ok (.ldc 106, 2) := by decide +kernel
theorem d_Csrs_dataLevel_8 : decode b_Csrs_dataLevel 8 = .ok (.invokevirtual 90, 3) := by decide +kernel
theorem d_Csrs_dataLevel_11 : decode b_Csrs_dataLevel 11 = .ok (.ifCond .eq 10, 3) := by decide +kernel
theorem d_Csrs_dataLevel_14 : decode b_Csrs_dataLevel 14 = .ok (.aload_n 0, 1) := by decide +kernel
theorem d_Csrs_dataLevel_15 : decode b_Csrs_dataLevel 15 = .ok (.invokevirtual 101, 3) := by decide +kernel
theorem d_Csrs_dataLevel_18 : decode b_Csrs_dataLevel 18 = .ok (.goto 4, 3) := by decide +kernel
theorem d_Csrs_dataLevel_21 : decode b_Csrs_dataLevel 21 = .ok (.iload_n 1, 1) := by decide +kernel
theorem d_Csrs_dataLevel_22 : decode b_Csrs_dataLevel 22 = .ok (.ireturn, 1) := by decide +kernel
theorem d_Csrs_hasPages_0 : decode b_Csrs_hasPages 0 = .ok (.aload_n 0, 1) := by decide +kernel
theorem d_Csrs_hasPages_1 : decode b_Csrs_hasPages 1 = .ok (.getfield 60, 3) := by decide +kernel
theorem d_Csrs_hasPages_4 : decode b_Csrs_hasPages 4 = .ok (.ifCond .ge 7, 3) := by decide +kernel
theorem d_Csrs_hasPages_7 : decode b_Csrs_hasPages 7 = .ok (.iconst 1, 1) := by decide +kernel
theorem d_Csrs_hasPages_8 : decode b_Csrs_hasPages 8 = .ok (.goto 4, 3) := by decide +kernel
theorem d_Csrs_hasPages_11 : decode b_Csrs_hasPages 11 = .ok (.iconst 0, 1) := by decide +kernel
theorem d_Csrs_hasPages_12 : decode b_Csrs_hasPages 12 = .ok (.ireturn, 1) := by decide +kernel
theorem d_Csrs_rootPage_0 : decode b_Csrs_rootPage 0 = .ok (.aload_n 0, 1) := by decide +kernel
theorem d_Csrs_rootPage_1 : decode b_Csrs_rootPage 1 = .ok (.getfield 60, 3) := by decide +kernel
theorem d_Csrs_rootPage_4 : decode b_Csrs_rootPage 4 = .ok (.ldc 107, 2) := by decide +kernel
theorem d_Csrs_rootPage_6 : decode b_Csrs_rootPage 6 = .ok (.iand, 1) := by decide +kernel
theorem d_Csrs_rootPage_7 : decode b_Csrs_rootPage 7 = .ok (.ireturn, 1) := by decide +kernel
theorem d_Csrs_leaveMachine_0 : decode b_Csrs_leaveMachine 0 = .ok (.aload_n 0, 1) := by decide +kernel
theorem d_Csrs_leaveMachine_1 : decode b_Csrs_leaveMachine 1 = .ok (.invokevirtual 101, 3) := by decide +kernel
theorem d_Csrs_leaveMachine_4 : decode b_Csrs_leaveMachine 4 = .ok (.istore_n 1, 1) := by decide +kernel
theorem d_Csrs_leaveMachine_5 : decode b_Csrs_leaveMachine 5 = .ok (.aload_n 0, 1) := by decide +kernel
theorem d_Csrs_leaveMachine_6 : decode b_Csrs_leaveMachine 6 = .ok (.sipush 128, 3) := by decide +kernel
theorem d_Csrs_leaveMachine_9 : decode b_Csrs_leaveMachine 9 = .ok (.invokevirtual 90, 3) := by decide +kernel
theorem d_Csrs_leaveMachine_12 : decode b_Csrs_leaveMachine 12 = .ok (.ifCond .eq 8, 3) := by decide +kernel
theorem d_Csrs_leaveMachine_15 : decode b_Csrs_leaveMachine 15 = .ok (.bipush 8, 2) := by decide +kernel
theorem d_Csrs_leaveMachine_17 : decode b_Csrs_leaveMachine 17 = .ok (.goto 4, 3) := by decide +kernel
theorem d_Csrs_leaveMachine_20 : decode b_Csrs_leaveMachine 20 = .ok (.iconst 0, 1) := by decide +kernel
theorem d_Csrs_leaveMachine_21 : decode b_Csrs_leaveMachine 21 = .ok (.istore_n 2, 1) := by decide +kernel
theorem d_Csrs_leaveMachine_22 : decode b_Csrs_leaveMachine 22 = .ok (.iload_n 1, 1) := by decide +kernel
theorem d_Csrs_leaveMachine_23 : decode b_Csrs_leaveMachine 23 = .ok (.iconst 3, 1) := by decide +kernel
theorem d_Csrs_leaveMachine_24 : decode b_Csrs_leaveMachine 24 = .ok (.if_icmp .ne 9, 3) := by decide +kernel
theorem d_Csrs_leaveMachine_27 : decode b_Csrs_leaveMachine 27 = .ok (.sipush 6152, 3) := by decide +kernel
theorem d_Csrs_leaveMachine_30 : decode b_Csrs_leaveMachine 30 = .ok (.goto 5, 3) := by decide +kernel
theorem d_Csrs_leaveMachine_33 : decode b_Csrs_leaveMachine 33 = .ok (.ldc 105, 2) := by decide +kernel
theorem d_Csrs_leaveMachine_35 : decode b_Csrs_leaveMachine 35 = .ok (.istore_n 3, 1) := by decide +kernel
theorem d_Csrs_leaveMachine_36 : decode b_Csrs_leaveMachine 36 = .ok (.aload_n 0, 1) := by decide +kernel
theorem d_Csrs_leaveMachine_37 : decode b_Csrs_leaveMachine 37 = .ok (.aload_n 0, 1) := by decide +kernel
theorem d_Csrs_leaveMachine_38 : decode b_Csrs_leaveMachine 38 = .ok (.getfield 15, 3) := by decide +kernel
theorem d_Csrs_leaveMachine_41 : decode b_Csrs_leaveMachine 41 = .ok (.iload_n 3, 1) := by decide +kernel
theorem d_Csrs_leaveMachine_42 : decode b_Csrs_leaveMachine 42 = .ok (.iconst (-1), 1) := by decide +kernel
theorem d_Csrs_leaveMachine_43 : decode b_Csrs_leaveMachine 43 = .ok (.ixor, 1) := by decide +kernel
theorem d_Csrs_leaveMachine_44 : decode b_Csrs_leaveMachine 44 = .ok (.iand, 1) := by decide +kernel
theorem d_Csrs_leaveMachine_45 : decode b_Csrs_leaveMachine 45 = .ok (.sipush 128, 3) := by decide +kernel
theorem d_Csrs_leaveMachine_48 : decode b_Csrs_leaveMachine 48 = .ok (.ior, 1) := by decide +kernel
theorem d_Csrs_leaveMachine_49 : decode b_Csrs_leaveMachine 49 = .ok (.iload_n 2, 1) := by decide +kernel
theorem d_Csrs_leaveMachine_50 : decode b_Csrs_leaveMachine 50 = .ok (.ior, 1) := by decide +kernel
theorem d_Csrs_leaveMachine_51 : decode b_Csrs_leaveMachine 51 = .ok (.putfield 15, 3) := by decide +kernel
theorem d_Csrs_leaveMachine_54 : decode b_Csrs_leaveMachine 54 = .ok (.iload_n 1, 1) := by decide +kernel
theorem d_Csrs_leaveMachine_55 : decode b_Csrs_leaveMachine 55 = .ok (.ireturn, 1) := by decide +kernel
theorem d_Csrs_leaveSupervisor_0 : decode b_Csrs_leaveSupervisor 0 = .ok (.aload_n 0, 1) := by decide +kernel
theorem d_Csrs_leaveSupervisor_1 : decode b_Csrs_leaveSupervisor 1 = .ok (.sipush 256, 3) := by decide +kernel
theorem d_Csrs_leaveSupervisor_4 : decode b_Csrs_leaveSupervisor 4 = .ok (.invokevirtual 90, 3) := by decide +kernel
theorem d_Csrs_leaveSupervisor_7 : decode b_Csrs_leaveSupervisor 7 = .ok (.ifCond .eq 7, 3) := by decide +kernel
theorem d_Csrs_leaveSupervisor_10 : decode b_Csrs_leaveSupervisor 10 = .ok (.iconst 1, 1) := by decide +kernel
theorem d_Csrs_leaveSupervisor_11 : decode b_Csrs_leaveSupervisor 11 = .ok (.goto 4, 3) := by decide +kernel
theorem d_Csrs_leaveSupervisor_14 : decode b_Csrs_leaveSupervisor 14 = .ok (.iconst 0, 1) := by decide +kernel
theorem d_Csrs_leaveSupervisor_15 : decode b_Csrs_leaveSupervisor 15 = .ok (.istore_n 1, 1) := by decide +kernel
theorem d_Csrs_leaveSupervisor_16 : decode b_Csrs_leaveSupervisor 16 = .ok (.aload_n 0, 1) := by decide +kernel
theorem d_Csrs_leaveSupervisor_17 : decode b_Csrs_leaveSupervisor 17 = .ok (.bipush 32, 2) := by decide +kernel
theorem d_Csrs_leaveSupervisor_19 : decode b_Csrs_leaveSupervisor 19 = .ok (.invokevirtual 90, 3) := by decide +kernel
theorem d_Csrs_leaveSupervisor_22 : decode b_Csrs_leaveSupervisor 22 = .ok (.ifCond .eq 7, 3) := by decide +kernel
theorem d_Csrs_leaveSupervisor_25 : decode b_Csrs_leaveSupervisor 25 = .ok (.iconst 2, 1) := by decide +kernel
theorem d_Csrs_leaveSupervisor_26 : decode b_Csrs_leaveSupervisor 26 = .ok (.goto 4, 3) := by decide +kernel
theorem d_Csrs_leaveSupervisor_29 : decode b_Csrs_leaveSupervisor 29 = .ok (.iconst 0, 1) := by decide +kernel
theorem d_Csrs_leaveSupervisor_30 : decode b_Csrs_leaveSupervisor 30 = .ok (.istore_n 2, 1) := by decide +kernel
theorem d_Csrs_leaveSupervisor_31 : decode b_Csrs_leaveSupervisor 31 = .ok (.aload_n 0, 1) := by decide +kernel
theorem d_Csrs_leaveSupervisor_32 : decode b_Csrs_leaveSupervisor 32 = .ok (.aload_n 0, 1) := by decide +kernel
theorem d_Csrs_leaveSupervisor_33 : decode b_Csrs_leaveSupervisor 33 = .ok (.getfield 15, 3) := by decide +kernel
theorem d_Csrs_leaveSupervisor_36 : decode b_Csrs_leaveSupervisor 36 = .ok (.ldc 100, 2) := by decide +kernel
theorem d_Csrs_leaveSupervisor_38 : decode b_Csrs_leaveSupervisor 38 = .ok (.iand, 1) := by decide +kernel
theorem d_Csrs_leaveSupervisor_39 : decode b_Csrs_leaveSupervisor 39 = .ok (.bipush 32, 2) := by decide +kernel
theorem d_Csrs_leaveSupervisor_41 : decode b_Csrs_leaveSupervisor 41 = .ok (.ior, 1) := by decide +kernel
theorem d_Csrs_leaveSupervisor_42 : decode b_Csrs_leaveSupervisor 42 = .ok (.iload_n 2, 1) := by decide +kernel
theorem d_Csrs_leaveSupervisor_43 : decode b_Csrs_leaveSupervisor 43 = .ok (.ior, 1) := by decide +kernel
theorem d_Csrs_leaveSupervisor_44 : decode b_Csrs_leaveSupervisor 44 = .ok (.putfield 15, 3) := by decide +kernel
theorem d_Csrs_leaveSupervisor_47 : decode b_Csrs_leaveSupervisor 47 = .ok (.iload_n 1, 1) := by decide +kernel
theorem d_Csrs_leaveSupervisor_48 : decode b_Csrs_leaveSupervisor 48 = .ok (.ireturn, 1) := by decide +kernel
theorem d_Csrs_isTold_0 : decode b_Csrs_isTold 0 = .ok (.iload_n 0, 1) := by decide +kernel
theorem d_Csrs_isTold_1 : decode b_Csrs_isTold 1 = .ok (.lookupswitch 205 #[(256, 203), (260, 203), (261, 203), (320, 203), (321, 203), (322, 203), (323, 203), (324, 203), (384, 203), (768, 203), (769, 203), (770, 203), (771, 203), (772, 203), (773, 203), (832, 203), (833, 203), (834, 203), (835, 203), (836, 203), (3857, 203), (3858, 203), (3859, 203), (3860, 203)], 203) := by decide +kernel
theorem d_Csrs_isTold_204 : decode b_Csrs_isTold 204 = .ok (.iconst 1, 1) := by decide +kernel
theorem d_Csrs_isTold_205 : decode b_Csrs_isTold 205 = .ok (.ireturn, 1) := by decide +kernel
theorem d_Csrs_isTold_206 : decode b_Csrs_isTold 206 = .ok (.iconst 0, 1) := by decide +kernel
theorem d_Csrs_isTold_207 : decode b_Csrs_isTold 207 = .ok (.ireturn, 1) := by decide +kernel
theorem d_Csrs_isReadOnly_0 : decode b_Csrs_isReadOnly 0 = .ok (.iload_n 0, 1) := by decide +kernel
theorem d_Csrs_isReadOnly_1 : decode b_Csrs_isReadOnly 1 = .ok (.sipush 3072, 3) := by decide +kernel
theorem d_Csrs_isReadOnly_4 : decode b_Csrs_isReadOnly 4 = .ok (.iand, 1) := by decide +kernel
theorem d_Csrs_isReadOnly_5 : decode b_Csrs_isReadOnly 5 = .ok (.sipush 3072, 3) := by decide +kernel
theorem d_Csrs_isReadOnly_8 : decode b_Csrs_isReadOnly 8 = .ok (.if_icmp .ne 7, 3) := by decide +kernel
theorem d_Csrs_isReadOnly_11 : decode b_Csrs_isReadOnly 11 = .ok (.iconst 1, 1) := by decide +kernel
theorem d_Csrs_isReadOnly_12 : decode b_Csrs_isReadOnly 12 = .ok (.goto 4, 3) := by decide +kernel
theorem d_Csrs_isReadOnly_15 : decode b_Csrs_isReadOnly 15 = .ok (.iconst 0, 1) := by decide +kernel
theorem d_Csrs_isReadOnly_16 : decode b_Csrs_isReadOnly 16 = .ok (.ireturn, 1) := by decide +kernel
theorem d_Csrs_isAllowed_0 : decode b_Csrs_isAllowed 0 = .ok (.iload_n 0, 1) := by decide +kernel
theorem d_Csrs_isAllowed_1 : decode b_Csrs_isAllowed 1 = .ok (.invokestatic 63, 3) := by decide +kernel
theorem d_Csrs_isAllowed_4 : decode b_Csrs_isAllowed 4 = .ok (.ifCond .eq 28, 3) := by decide +kernel
theorem d_Csrs_isAllowed_7 : decode b_Csrs_isAllowed 7 = .ok (.iload_n 1, 1) := by decide +kernel
theorem d_Csrs_isAllowed_8 : decode b_Csrs_isAllowed 8 = .ok (.iload_n 0, 1) := by decide +kernel
theorem d_Csrs_isAllowed_9 : decode b_Csrs_isAllowed 9 = .ok (.bipush 8, 2) := by decide +kernel
theorem d_Csrs_isAllowed_11 : decode b_Csrs_isAllowed 11 = .ok (.ishr, 1) := by decide +kernel
theorem d_Csrs_isAllowed_12 : decode b_Csrs_isAllowed 12 = .ok (.iconst 3, 1) := by decide +kernel
theorem d_Csrs_isAllowed_13 : decode b_Csrs_isAllowed 13 = .ok (.iand, 1) := by decide +kernel
theorem d_Csrs_isAllowed_14 : decode b_Csrs_isAllowed 14 = .ok (.if_icmp .lt 18, 3) := by decide +kernel
theorem d_Csrs_isAllowed_17 : decode b_Csrs_isAllowed 17 = .ok (.iload_n 2, 1) := by decide +kernel
theorem d_Csrs_isAllowed_18 : decode b_Csrs_isAllowed 18 = .ok (.ifCond .eq 10, 3) := by decide +kernel
theorem d_Csrs_isAllowed_21 : decode b_Csrs_isAllowed 21 = .ok (.iload_n 0, 1) := by decide +kernel
theorem d_Csrs_isAllowed_22 : decode b_Csrs_isAllowed 22 = .ok (.invokestatic 67, 3) := by decide +kernel
theorem d_Csrs_isAllowed_25 : decode b_Csrs_isAllowed 25 = .ok (.ifCond .ne 7, 3) := by decide +kernel
theorem d_Csrs_isAllowed_28 : decode b_Csrs_isAllowed 28 = .ok (.iconst 1, 1) := by decide +kernel
theorem d_Csrs_isAllowed_29 : decode b_Csrs_isAllowed 29 = .ok (.goto 4, 3) := by decide +kernel
theorem d_Csrs_isAllowed_32 : decode b_Csrs_isAllowed 32 = .ok (.iconst 0, 1) := by decide +kernel
theorem d_Csrs_isAllowed_33 : decode b_Csrs_isAllowed 33 = .ok (.ireturn, 1) := by decide +kernel
theorem d_Csrs_read_0 : decode b_Csrs_read 0 = .ok (.iload_n 1, 1) := by decide +kernel
theorem d_Csrs_read_1 : decode b_Csrs_read 1 = .ok (.lookupswitch 299 #[(256, 179), (260, 187), (261, 197), (320, 202), (321, 207), (322, 212), (323, 217), (324, 222), (384, 234), (768, 239), (769, 244), (770, 247), (771, 252), (772, 257), (773, 262), (832, 267), (833, 272), (834, 277), (835, 282), (836, 287), (3860, 294)], 179) := by decide +kernel
theorem d_Csrs_read_180 : decode b_Csrs_read 180 = .ok (.aload_n 0, 1) := by decide +kernel
theorem d_Csrs_read_181 : decode b_Csrs_read 181 = .ok (.getfield 15, 3) := by decide +kernel
theorem d_Csrs_read_184 : decode b_Csrs_read 184 = .ok (.ldc 70, 2) := by decide +kernel
theorem d_Csrs_read_186 : decode b_Csrs_read 186 = .ok (.iand, 1) := by decide +kernel
theorem d_Csrs_read_187 : decode b_Csrs_read 187 = .ok (.ireturn, 1) := by decide +kernel
theorem d_Csrs_read_188 : decode b_Csrs_read 188 = .ok (.aload_n 0, 1) := by decide +kernel
theorem d_Csrs_read_189 : decode b_Csrs_read 189 = .ok (.getfield 24, 3) := by decide +kernel
theorem d_Csrs_read_192 : decode b_Csrs_read 192 = .ok (.aload_n 0, 1) := by decide +kernel
theorem d_Csrs_read_193 : decode b_Csrs_read 193 = .ok (.getfield 21, 3) := by decide +kernel
theorem d_Csrs_read_196 : decode b_Csrs_read 196 = .ok (.iand, 1) := by decide +kernel
theorem d_Csrs_read_197 : decode b_Csrs_read 197 = .ok (.ireturn, 1) := by decide +kernel
theorem d_Csrs_read_198 : decode b_Csrs_read 198 = .ok (.aload_n 0, 1) := by decide +kernel
theorem d_Csrs_read_199 : decode b_Csrs_read 199 = .ok (.getfield 45, 3) := by decide +kernel
theorem d_Csrs_read_202 : decode b_Csrs_read 202 = .ok (.ireturn, 1) := by decide +kernel
theorem d_Csrs_read_203 : decode b_Csrs_read 203 = .ok (.aload_n 0, 1) := by decide +kernel
theorem d_Csrs_read_204 : decode b_Csrs_read 204 = .ok (.getfield 51, 3) := by decide +kernel
theorem d_Csrs_read_207 : decode b_Csrs_read 207 = .ok (.ireturn, 1) := by decide +kernel
theorem d_Csrs_read_208 : decode b_Csrs_read 208 = .ok (.aload_n 0, 1) := by decide +kernel
theorem d_Csrs_read_209 : decode b_Csrs_read 209 = .ok (.getfield 48, 3) := by decide +kernel
theorem d_Csrs_read_212 : decode b_Csrs_read 212 = .ok (.ireturn, 1) := by decide +kernel
theorem d_Csrs_read_213 : decode b_Csrs_read 213 = .ok (.aload_n 0, 1) := by decide +kernel
theorem d_Csrs_read_214 : decode b_Csrs_read 214 = .ok (.getfield 54, 3) := by decide +kernel
theorem d_Csrs_read_217 : decode b_Csrs_read 217 = .ok (.ireturn, 1) := by decide +kernel
theorem d_Csrs_read_218 : decode b_Csrs_read 218 = .ok (.aload_n 0, 1) := by decide +kernel
theorem d_Csrs_read_219 : decode b_Csrs_read 219 = .ok (.getfield 57, 3) := by decide +kernel
theorem d_Csrs_read_222 : decode b_Csrs_read 222 = .ok (.ireturn, 1) := by decide +kernel
theorem d_Csrs_read_223 : decode b_Csrs_read 223 = .ok (.aload_n 0, 1) := by decide +kernel
theorem d_Csrs_read_224 : decode b_Csrs_read 224 = .ok (.getfield 42, 3) := by decide +kernel
theorem d_Csrs_read_227 : decode b_Csrs_read 227 = .ok (.iload_n 2, 1) := by decide +kernel
theorem d_Csrs_read_228 : decode b_Csrs_read 228 = .ok (.ior, 1) := by decide +kernel
theorem d_Csrs_read_229 : decode b_Csrs_read 229 = .ok (.aload_n 0, 1) := by decide +kernel
theorem d_Csrs_read_230 : decode b_Csrs_read 230 = .ok (.getfield 21, 3) := by decide +kernel
theorem d_Csrs_read_233 : decode b_Csrs_read 233 = .ok (.iand, 1) := by decide +kernel
theorem d_Csrs_read_234 : decode b_Csrs_read 234 = .ok (.ireturn, 1) := by decide +kernel
theorem d_Csrs_read_235 : decode b_Csrs_read 235 = .ok (.aload_n 0, 1) := by decide +kernel
theorem d_Csrs_read_236 : decode b_Csrs_read 236 = .ok (.getfield 60, 3) := by decide +kernel
theorem d_Csrs_read_239 : decode b_Csrs_read 239 = .ok (.ireturn, 1) := by decide +kernel
theorem d_Csrs_read_240 : decode b_Csrs_read 240 = .ok (.aload_n 0, 1) := by decide +kernel
theorem d_Csrs_read_241 : decode b_Csrs_read 241 = .ok (.getfield 15, 3) := by decide +kernel
theorem d_Csrs_read_244 : decode b_Csrs_read 244 = .ok (.ireturn, 1) := by decide +kernel
theorem d_Csrs_read_245 : decode b_Csrs_read 245 = .ok (.ldc 71, 2) := by decide +kernel
theorem d_Csrs_read_247 : decode b_Csrs_read 247 = .ok (.ireturn, 1) := by decide +kernel
theorem d_Csrs_read_248 : decode b_Csrs_read 248 = .ok (.aload_n 0, 1) := by decide +kernel
theorem d_Csrs_read_249 : decode b_Csrs_read 249 = .ok (.getfield 18, 3) := by decide +kernel
theorem d_Csrs_read_252 : decode b_Csrs_read 252 = .ok (.ireturn, 1) := by decide +kernel
theorem d_Csrs_read_253 : decode b_Csrs_read 253 = .ok (.aload_n 0, 1) := by decide +kernel
theorem d_Csrs_read_254 : decode b_Csrs_read 254 = .ok (.getfield 21, 3) := by decide +kernel
theorem d_Csrs_read_257 : decode b_Csrs_read 257 = .ok (.ireturn, 1) := by decide +kernel
theorem d_Csrs_read_258 : decode b_Csrs_read 258 = .ok (.aload_n 0, 1) := by decide +kernel
theorem d_Csrs_read_259 : decode b_Csrs_read 259 = .ok (.getfield 24, 3) := by decide +kernel
theorem d_Csrs_read_262 : decode b_Csrs_read 262 = .ok (.ireturn, 1) := by decide +kernel
theorem d_Csrs_read_263 : decode b_Csrs_read 263 = .ok (.aload_n 0, 1) := by decide +kernel
theorem d_Csrs_read_264 : decode b_Csrs_read 264 = .ok (.getfield 27, 3) := by decide +kernel
theorem d_Csrs_read_267 : decode b_Csrs_read 267 = .ok (.ireturn, 1) := by decide +kernel
theorem d_Csrs_read_268 : decode b_Csrs_read 268 = .ok (.aload_n 0, 1) := by decide +kernel
theorem d_Csrs_read_269 : decode b_Csrs_read 269 = .ok (.getfield 33, 3) := by decide +kernel
theorem d_Csrs_read_272 : decode b_Csrs_read 272 = .ok (.ireturn, 1) := by decide +kernel
theorem d_Csrs_read_273 : decode b_Csrs_read 273 = .ok (.aload_n 0, 1) := by decide +kernel
theorem d_Csrs_read_274 : decode b_Csrs_read 274 = .ok (.getfield 30, 3) := by decide +kernel
theorem d_Csrs_read_277 : decode b_Csrs_read 277 = .ok (.ireturn, 1) := by decide +kernel
theorem d_Csrs_read_278 : decode b_Csrs_read 278 = .ok (.aload_n 0, 1) := by decide +kernel
theorem d_Csrs_read_279 : decode b_Csrs_read 279 = .ok (.getfield 36, 3) := by decide +kernel
theorem d_Csrs_read_282 : decode b_Csrs_read 282 = .ok (.ireturn, 1) := by decide +kernel
theorem d_Csrs_read_283 : decode b_Csrs_read 283 = .ok (.aload_n 0, 1) := by decide +kernel
theorem d_Csrs_read_284 : decode b_Csrs_read 284 = .ok (.getfield 39, 3) := by decide +kernel
theorem d_Csrs_read_287 : decode b_Csrs_read 287 = .ok (.ireturn, 1) := by decide +kernel
theorem d_Csrs_read_288 : decode b_Csrs_read 288 = .ok (.aload_n 0, 1) := by decide +kernel
theorem d_Csrs_read_289 : decode b_Csrs_read 289 = .ok (.getfield 42, 3) := by decide +kernel
theorem d_Csrs_read_292 : decode b_Csrs_read 292 = .ok (.iload_n 2, 1) := by decide +kernel
theorem d_Csrs_read_293 : decode b_Csrs_read 293 = .ok (.ior, 1) := by decide +kernel
theorem d_Csrs_read_294 : decode b_Csrs_read 294 = .ok (.ireturn, 1) := by decide +kernel
theorem d_Csrs_read_295 : decode b_Csrs_read 295 = .ok (.aload_n 0, 1) := by decide +kernel
theorem d_Csrs_read_296 : decode b_Csrs_read 296 = .ok (.getfield 11, 3) := by decide +kernel
theorem d_Csrs_read_299 : decode b_Csrs_read 299 = .ok (.ireturn, 1) := by decide +kernel
theorem d_Csrs_read_300 : decode b_Csrs_read 300 = .ok (.iconst 0, 1) := by decide +kernel
theorem d_Csrs_read_301 : decode b_Csrs_read 301 = .ok (.ireturn, 1) := by decide +kernel
theorem d_Csrs_merged_0 : decode b_Csrs_merged 0 = .ok (.iload_n 0, 1) := by decide +kernel
theorem d_Csrs_merged_1 : decode b_Csrs_merged 1 = .ok (.iload_n 2, 1) := by decide +kernel
theorem d_Csrs_merged_2 : decode b_Csrs_merged 2 = .ok (.iconst (-1), 1) := by decide +kernel
theorem d_Csrs_merged_3 : decode b_Csrs_merged 3 = .ok (.ixor, 1) := by decide +kernel
theorem d_Csrs_merged_4 : decode b_Csrs_merged 4 = .ok (.iand, 1) := by decide +kernel
theorem d_Csrs_merged_5 : decode b_Csrs_merged 5 = .ok (.iload_n 1, 1) := by decide +kernel
theorem d_Csrs_merged_6 : decode b_Csrs_merged 6 = .ok (.iload_n 2, 1) := by decide +kernel
theorem d_Csrs_merged_7 : decode b_Csrs_merged 7 = .ok (.iand, 1) := by decide +kernel
theorem d_Csrs_merged_8 : decode b_Csrs_merged 8 = .ok (.ior, 1) := by decide +kernel
theorem d_Csrs_merged_9 : decode b_Csrs_merged 9 = .ok (.ireturn, 1) := by decide +kernel
theorem d_Csrs_writeSupervisor_0 : decode b_Csrs_writeSupervisor 0 = .ok (.iload_n 1, 1) := by decide +kernel
theorem d_Csrs_writeSupervisor_1 : decode b_Csrs_writeSupervisor 1 = .ok (.lookupswitch 197 #[(256, 83), (260, 100), (261, 119), (320, 130), (321, 138), (322, 149), (323, 157), (324, 165), (384, 186)], 83) := by decide +kernel
theorem d_Csrs_writeSupervisor_84 : decode b_Csrs_writeSupervisor 84 = .ok (.aload_n 0, 1) := by decide +kernel
theorem d_Csrs_writeSupervisor_85 : decode b_Csrs_writeSupervisor 85 = .ok (.aload_n 0, 1) := by decide +kernel
theorem d_Csrs_writeSupervisor_86 : decode b_Csrs_writeSupervisor 86 = .ok (.getfield 15, 3) := by decide +kernel
theorem d_Csrs_writeSupervisor_89 : decode b_Csrs_writeSupervisor 89 = .ok (.iload_n 2, 1) := by decide +kernel
theorem d_Csrs_writeSupervisor_90 : decode b_Csrs_writeSupervisor 90 = .ok (.ldc 70, 2) := by decide +kernel
theorem d_Csrs_writeSupervisor_92 : decode b_Csrs_writeSupervisor 92 = .ok (.invokestatic 79, 3) := by decide +kernel
theorem d_Csrs_writeSupervisor_95 : decode b_Csrs_writeSupervisor 95 = .ok (.putfield 15, 3) := by decide +kernel
theorem d_Csrs_writeSupervisor_98 : decode b_Csrs_writeSupervisor 98 = .ok (.goto 100, 3) := by decide +kernel
theorem d_Csrs_writeSupervisor_101 : decode b_Csrs_writeSupervisor 101 = .ok (.aload_n 0, 1) := by decide +kernel
theorem d_Csrs_writeSupervisor_102 : decode b_Csrs_writeSupervisor 102 = .ok (.aload_n 0, 1) := by decide +kernel
theorem d_Csrs_writeSupervisor_103 : decode b_Csrs_writeSupervisor 103 = .ok (.getfield 24, 3) := by decide +kernel
theorem d_Csrs_writeSupervisor_106 : decode b_Csrs_writeSupervisor 106 = .ok (.iload_n 2, 1) := by decide +kernel
theorem d_Csrs_writeSupervisor_107 : decode b_Csrs_writeSupervisor 107 = .ok (.aload_n 0, 1) := by decide +kernel
theorem d_Csrs_writeSupervisor_108 : decode b_Csrs_writeSupervisor 108 = .ok (.getfield 21, 3) := by decide +kernel
theorem d_Csrs_writeSupervisor_111 : decode b_Csrs_writeSupervisor 111 = .ok (.invokestatic 79, 3) := by decide +kernel
theorem d_Csrs_writeSupervisor_114 : decode b_Csrs_writeSupervisor 114 = .ok (.putfield 24, 3) := by decide +kernel
theorem d_Csrs_writeSupervisor_117 : decode b_Csrs_writeSupervisor 117 = .ok (.goto 81, 3) := by decide +kernel
theorem d_Csrs_writeSupervisor_120 : decode b_Csrs_writeSupervisor 120 = .ok (.aload_n 0, 1) := by decide +kernel
theorem d_Csrs_writeSupervisor_121 : decode b_Csrs_writeSupervisor 121 = .ok (.iload_n 2, 1) := by decide +kernel
theorem d_Csrs_writeSupervisor_122 : decode b_Csrs_writeSupervisor 122 = .ok (.bipush (-4), 2) := by decide +kernel
theorem d_Csrs_writeSupervisor_124 : decode b_Csrs_writeSupervisor 124 = .ok (.iand, 1) := by decide +kernel
theorem d_Csrs_writeSupervisor_125 : decode b_Csrs_writeSupervisor 125 = .ok (.putfield 45, 3) := by decide +kernel
theorem d_Csrs_writeSupervisor_128 : decode b_Csrs_writeSupervisor 128 = .ok (.goto 70, 3) := by decide +kernel
theorem d_Csrs_writeSupervisor_131 : decode b_Csrs_writeSupervisor 131 = .ok (.aload_n 0, 1) := by decide +kernel
theorem d_Csrs_writeSupervisor_132 : decode b_Csrs_writeSupervisor 132 = .ok (.iload_n 2, 1) := by decide +kernel
theorem d_Csrs_writeSupervisor_133 : decode b_Csrs_writeSupervisor 133 = .ok (.putfield 51, 3) := by decide +kernel
theorem d_Csrs_writeSupervisor_136 : decode b_Csrs_writeSupervisor 136 = .ok (.goto 62, 3) := by decide +kernel
theorem d_Csrs_writeSupervisor_139 : decode b_Csrs_writeSupervisor 139 = .ok (.aload_n 0, 1) := by decide +kernel
theorem d_Csrs_writeSupervisor_140 : decode b_Csrs_writeSupervisor 140 = .ok (.iload_n 2, 1) := by decide +kernel
theorem d_Csrs_writeSupervisor_141 : decode b_Csrs_writeSupervisor 141 = .ok (.bipush (-4), 2) := by decide +kernel
theorem d_Csrs_writeSupervisor_143 : decode b_Csrs_writeSupervisor 143 = .ok (.iand, 1) := by decide +kernel
theorem d_Csrs_writeSupervisor_144 : decode b_Csrs_writeSupervisor 144 = .ok (.putfield 48, 3) := by decide +kernel
theorem d_Csrs_writeSupervisor_147 : decode b_Csrs_writeSupervisor 147 = .ok (.goto 51, 3) := by decide +kernel
theorem d_Csrs_writeSupervisor_150 : decode b_Csrs_writeSupervisor 150 = .ok (.aload_n 0, 1) := by decide +kernel
theorem d_Csrs_writeSupervisor_151 : decode b_Csrs_writeSupervisor 151 = .ok (.iload_n 2, 1) := by decide +kernel
theorem d_Csrs_writeSupervisor_152 : decode b_Csrs_writeSupervisor 152 = .ok (.putfield 54, 3) := by decide +kernel
theorem d_Csrs_writeSupervisor_155 : decode b_Csrs_writeSupervisor 155 = .ok (.goto 43, 3) := by decide +kernel
theorem d_Csrs_writeSupervisor_158 : decode b_Csrs_writeSupervisor 158 = .ok (.aload_n 0, 1) := by decide +kernel
theorem d_Csrs_writeSupervisor_159 : decode b_Csrs_writeSupervisor 159 = .ok (.iload_n 2, 1) := by decide +kernel
theorem d_Csrs_writeSupervisor_160 : decode b_Csrs_writeSupervisor 160 = .ok (.putfield 57, 3) := by decide +kernel
theorem d_Csrs_writeSupervisor_163 : decode b_Csrs_writeSupervisor 163 = .ok (.goto 35, 3) := by decide +kernel
theorem d_Csrs_writeSupervisor_166 : decode b_Csrs_writeSupervisor 166 = .ok (.aload_n 0, 1) := by decide +kernel
theorem d_Csrs_writeSupervisor_167 : decode b_Csrs_writeSupervisor 167 = .ok (.aload_n 0, 1) := by decide +kernel
theorem d_Csrs_writeSupervisor_168 : decode b_Csrs_writeSupervisor 168 = .ok (.getfield 42, 3) := by decide +kernel
theorem d_Csrs_writeSupervisor_171 : decode b_Csrs_writeSupervisor 171 = .ok (.iload_n 2, 1) := by decide +kernel
theorem d_Csrs_writeSupervisor_172 : decode b_Csrs_writeSupervisor 172 = .ok (.aload_n 0, 1) := by decide +kernel
theorem d_Csrs_writeSupervisor_173 : decode b_Csrs_writeSupervisor 173 = .ok (.getfield 21, 3) := by decide +kernel
theorem d_Csrs_writeSupervisor_176 : decode b_Csrs_writeSupervisor 176 = .ok (.iconst 2, 1) := by decide +kernel
theorem d_Csrs_writeSupervisor_177 : decode b_Csrs_writeSupervisor 177 = .ok (.iand, 1) := by decide +kernel
theorem d_Csrs_writeSupervisor_178 : decode b_Csrs_writeSupervisor 178 = .ok (.invokestatic 79, 3) := by decide +kernel
theorem d_Csrs_writeSupervisor_181 : decode b_Csrs_writeSupervisor 181 = .ok (.putfield 42, 3) := by decide +kernel
theorem d_Csrs_writeSupervisor_184 : decode b_Csrs_writeSupervisor 184 = .ok (.goto 14, 3) := by decide +kernel
theorem d_Csrs_writeSupervisor_187 : decode b_Csrs_writeSupervisor 187 = .ok (.aload_n 0, 1) := by decide +kernel
theorem d_Csrs_writeSupervisor_188 : decode b_Csrs_writeSupervisor 188 = .ok (.iload_n 2, 1) := by decide +kernel
theorem d_Csrs_writeSupervisor_189 : decode b_Csrs_writeSupervisor 189 = .ok (.ldc 83, 2) := by decide +kernel
theorem d_Csrs_writeSupervisor_191 : decode b_Csrs_writeSupervisor 191 = .ok (.iand, 1) := by decide +kernel
theorem d_Csrs_writeSupervisor_192 : decode b_Csrs_writeSupervisor 192 = .ok (.putfield 60, 3) := by decide +kernel
theorem d_Csrs_writeSupervisor_195 : decode b_Csrs_writeSupervisor 195 = .ok (.goto 3, 3) := by decide +kernel
theorem d_Csrs_writeSupervisor_198 : decode b_Csrs_writeSupervisor 198 = .ok (.return_, 1) := by decide +kernel
theorem d_Csrs_withoutLevelTwo_0 : decode b_Csrs_withoutLevelTwo 0 = .ok (.iload_n 0, 1) := by decide +kernel
theorem d_Csrs_withoutLevelTwo_1 : decode b_Csrs_withoutLevelTwo 1 = .ok (.sipush 6144, 3) := by decide +kernel
theorem d_Csrs_withoutLevelTwo_4 : decode b_Csrs_withoutLevelTwo 4 = .ok (.iand, 1) := by decide +kernel
theorem d_Csrs_withoutLevelTwo_5 : decode b_Csrs_withoutLevelTwo 5 = .ok (.sipush 4096, 3) := by decide +kernel
theorem d_Csrs_withoutLevelTwo_8 : decode b_Csrs_withoutLevelTwo 8 = .ok (.if_icmp .ne 11, 3) := by decide +kernel
theorem d_Csrs_withoutLevelTwo_11 : decode b_Csrs_withoutLevelTwo 11 = .ok (.iload_n 0, 1) := by decide +kernel
theorem d_Csrs_withoutLevelTwo_12 : decode b_Csrs_withoutLevelTwo 12 = .ok (.sipush (-6145), 3) := by decide +kernel
theorem d_Csrs_withoutLevelTwo_15 : decode b_Csrs_withoutLevelTwo 15 = .ok (.iand, 1) := by decide +kernel
theorem d_Csrs_withoutLevelTwo_16 : decode b_Csrs_withoutLevelTwo 16 = .ok (.goto 4, 3) := by decide +kernel
theorem d_Csrs_withoutLevelTwo_19 : decode b_Csrs_withoutLevelTwo 19 = .ok (.iload_n 0, 1) := by decide +kernel
theorem d_Csrs_withoutLevelTwo_20 : decode b_Csrs_withoutLevelTwo 20 = .ok (.ireturn, 1) := by decide +kernel
theorem d_Csrs_writeMachine_0 : decode b_Csrs_writeMachine 0 = .ok (.iload_n 1, 1) := by decide +kernel
theorem d_Csrs_writeMachine_1 : decode b_Csrs_writeMachine 1 = .ok (.lookupswitch 198 #[(768, 91), (770, 105), (771, 116), (772, 128), (773, 140), (832, 151), (833, 159), (834, 170), (835, 178), (836, 186)], 91) := by decide +kernel
theorem d_Csrs_writeMachine_92 : decode b_Csrs_writeMachine 92 = .ok (.aload_n 0, 1) := by decide +kernel
theorem d_Csrs_writeMachine_93 : decode b_Csrs_writeMachine 93 = .ok (.iload_n 2, 1) := by decide +kernel
theorem d_Csrs_writeMachine_94 : decode b_Csrs_writeMachine 94 = .ok (.ldc 84, 2) := by decide +kernel
theorem d_Csrs_writeMachine_96 : decode b_Csrs_writeMachine 96 = .ok (.iand, 1) := by decide +kernel
theorem d_Csrs_writeMachine_97 : decode b_Csrs_writeMachine 97 = .ok (.invokestatic 85, 3) := by decide +kernel
theorem d_Csrs_writeMachine_100 : decode b_Csrs_writeMachine 100 = .ok (.putfield 15, 3) := by decide +kernel
theorem d_Csrs_writeMachine_103 : decode b_Csrs_writeMachine 103 = .ok (.goto 96, 3) := by decide +kernel
theorem d_Csrs_writeMachine_106 : decode b_Csrs_writeMachine 106 = .ok (.aload_n 0, 1) := by decide +kernel
theorem d_Csrs_writeMachine_107 : decode b_Csrs_writeMachine 107 = .ok (.iload_n 2, 1) := by decide +kernel
theorem d_Csrs_writeMachine_108 : decode b_Csrs_writeMachine 108 = .ok (.ldc 89, 2) := by decide +kernel
theorem d_Csrs_writeMachine_110 : decode b_Csrs_writeMachine 110 = .ok (.iand, 1) := by decide +kernel
theorem d_Csrs_writeMachine_111 : decode b_Csrs_writeMachine 111 = .ok (.putfield 18, 3) := by decide +kernel
theorem d_Csrs_writeMachine_114 : decode b_Csrs_writeMachine 114 = .ok (.goto 85, 3) := by decide +kernel
theorem d_Csrs_writeMachine_117 : decode b_Csrs_writeMachine 117 = .ok (.aload_n 0, 1) := by decide +kernel
theorem d_Csrs_writeMachine_118 : decode b_Csrs_writeMachine 118 = .ok (.iload_n 2, 1) := by decide +kernel
theorem d_Csrs_writeMachine_119 : decode b_Csrs_writeMachine 119 = .ok (.sipush 546, 3) := by decide +kernel
theorem d_Csrs_writeMachine_122 : decode b_Csrs_writeMachine 122 = .ok (.iand, 1) := by decide +kernel
theorem d_Csrs_writeMachine_123 : decode b_Csrs_writeMachine 123 = .ok (.putfield 21, 3) := by decide +kernel
theorem d_Csrs_writeMachine_126 : decode b_Csrs_writeMachine 126 = .ok (.goto 73, 3) := by decide +kernel
theorem d_Csrs_writeMachine_129 : decode b_Csrs_writeMachine 129 = .ok (.aload_n 0, 1) := by decide +kernel
theorem d_Csrs_writeMachine_130 : decode b_Csrs_writeMachine 130 = .ok (.iload_n 2, 1) := by decide +kernel
theorem d_Csrs_writeMachine_131 : decode b_Csrs_writeMachine 131 = .ok (.sipush 2730, 3) := by decide +kernel
theorem d_Csrs_writeMachine_134 : decode b_Csrs_writeMachine 134 = .ok (.iand, 1) := by decide +kernel
theorem d_Csrs_writeMachine_135 : decode b_Csrs_writeMachine 135 = .ok (.putfield 24, 3) := by decide +kernel
theorem d_Csrs_writeMachine_138 : decode b_Csrs_writeMachine 138 = .ok (.goto 61, 3) := by decide +kernel
theorem d_Csrs_writeMachine_141 : decode b_Csrs_writeMachine 141 = .ok (.aload_n 0, 1) := by decide +kernel
theorem d_Csrs_writeMachine_142 : decode b_Csrs_writeMachine 142 = .ok (.iload_n 2, 1) := by decide +kernel
theorem d_Csrs_writeMachine_143 : decode b_Csrs_writeMachine 143 = .ok (.bipush (-4), 2) := by decide +kernel
theorem d_Csrs_writeMachine_145 : decode b_Csrs_writeMachine 145 = .ok (.iand, 1) := by decide +kernel
theorem d_Csrs_writeMachine_146 : decode b_Csrs_writeMachine 146 = .ok (.putfield 27, 3) := by decide +kernel
theorem d_Csrs_writeMachine_149 : decode b_Csrs_writeMachine 149 = .ok (.goto 50, 3) := by decide +kernel
theorem d_Csrs_writeMachine_152 : decode b_Csrs_writeMachine 152 = .ok (.aload_n 0, 1) := by decide +kernel
theorem d_Csrs_writeMachine_153 : decode b_Csrs_writeMachine 153 = .ok (.iload_n 2, 1) := by decide +kernel
theorem d_Csrs_writeMachine_154 : decode b_Csrs_writeMachine 154 = .ok (.putfield 33, 3) := by decide +kernel
theorem d_Csrs_writeMachine_157 : decode b_Csrs_writeMachine 157 = .ok (.goto 42, 3) := by decide +kernel
theorem d_Csrs_writeMachine_160 : decode b_Csrs_writeMachine 160 = .ok (.aload_n 0, 1) := by decide +kernel
theorem d_Csrs_writeMachine_161 : decode b_Csrs_writeMachine 161 = .ok (.iload_n 2, 1) := by decide +kernel
theorem d_Csrs_writeMachine_162 : decode b_Csrs_writeMachine 162 = .ok (.bipush (-4), 2) := by decide +kernel
theorem d_Csrs_writeMachine_164 : decode b_Csrs_writeMachine 164 = .ok (.iand, 1) := by decide +kernel
theorem d_Csrs_writeMachine_165 : decode b_Csrs_writeMachine 165 = .ok (.putfield 30, 3) := by decide +kernel
theorem d_Csrs_writeMachine_168 : decode b_Csrs_writeMachine 168 = .ok (.goto 31, 3) := by decide +kernel
theorem d_Csrs_writeMachine_171 : decode b_Csrs_writeMachine 171 = .ok (.aload_n 0, 1) := by decide +kernel
theorem d_Csrs_writeMachine_172 : decode b_Csrs_writeMachine 172 = .ok (.iload_n 2, 1) := by decide +kernel
theorem d_Csrs_writeMachine_173 : decode b_Csrs_writeMachine 173 = .ok (.putfield 36, 3) := by decide +kernel
theorem d_Csrs_writeMachine_176 : decode b_Csrs_writeMachine 176 = .ok (.goto 23, 3) := by decide +kernel
theorem d_Csrs_writeMachine_179 : decode b_Csrs_writeMachine 179 = .ok (.aload_n 0, 1) := by decide +kernel
theorem d_Csrs_writeMachine_180 : decode b_Csrs_writeMachine 180 = .ok (.iload_n 2, 1) := by decide +kernel
theorem d_Csrs_writeMachine_181 : decode b_Csrs_writeMachine 181 = .ok (.putfield 39, 3) := by decide +kernel
theorem d_Csrs_writeMachine_184 : decode b_Csrs_writeMachine 184 = .ok (.goto 15, 3) := by decide +kernel
theorem d_Csrs_writeMachine_187 : decode b_Csrs_writeMachine 187 = .ok (.aload_n 0, 1) := by decide +kernel
theorem d_Csrs_writeMachine_188 : decode b_Csrs_writeMachine 188 = .ok (.iload_n 2, 1) := by decide +kernel
theorem d_Csrs_writeMachine_189 : decode b_Csrs_writeMachine 189 = .ok (.sipush 546, 3) := by decide +kernel
theorem d_Csrs_writeMachine_192 : decode b_Csrs_writeMachine 192 = .ok (.iand, 1) := by decide +kernel
theorem d_Csrs_writeMachine_193 : decode b_Csrs_writeMachine 193 = .ok (.putfield 42, 3) := by decide +kernel
theorem d_Csrs_writeMachine_196 : decode b_Csrs_writeMachine 196 = .ok (.goto 3, 3) := by decide +kernel
theorem d_Csrs_writeMachine_199 : decode b_Csrs_writeMachine 199 = .ok (.return_, 1) := by decide +kernel
theorem d_Csrs_write_0 : decode b_Csrs_write 0 = .ok (.iload_n 1, 1) := by decide +kernel
theorem d_Csrs_write_1 : decode b_Csrs_write 1 = .ok (.sipush 768, 3) := by decide +kernel
theorem d_Csrs_write_4 : decode b_Csrs_write 4 = .ok (.if_icmp .ge 12, 3) := by decide +kernel
theorem d_Csrs_write_7 : decode b_Csrs_write 7 = .ok (.aload_n 0, 1) := by decide +kernel
theorem d_Csrs_write_8 : decode b_Csrs_write 8 = .ok (.iload_n 1, 1) := by decide +kernel
theorem d_Csrs_write_9 : decode b_Csrs_write 9 = .ok (.iload_n 2, 1) := by decide +kernel
theorem d_Csrs_write_10 : decode b_Csrs_write 10 = .ok (.invokevirtual 72, 3) := by decide +kernel
theorem d_Csrs_write_13 : decode b_Csrs_write 13 = .ok (.goto 9, 3) := by decide +kernel
theorem d_Csrs_write_16 : decode b_Csrs_write 16 = .ok (.aload_n 0, 1) := by decide +kernel
theorem d_Csrs_write_17 : decode b_Csrs_write 17 = .ok (.iload_n 1, 1) := by decide +kernel
theorem d_Csrs_write_18 : decode b_Csrs_write 18 = .ok (.iload_n 2, 1) := by decide +kernel
theorem d_Csrs_write_19 : decode b_Csrs_write 19 = .ok (.invokevirtual 76, 3) := by decide +kernel
theorem d_Csrs_write_22 : decode b_Csrs_write 22 = .ok (.return_, 1) := by decide +kernel
theorem d_Csrs_handsDownTrap_0 : decode b_Csrs_handsDownTrap 0 = .ok (.aload_n 0, 1) := by decide +kernel
theorem d_Csrs_handsDownTrap_1 : decode b_Csrs_handsDownTrap 1 = .ok (.getfield 18, 3) := by decide +kernel
theorem d_Csrs_handsDownTrap_4 : decode b_Csrs_handsDownTrap 4 = .ok (.iload_n 1, 1) := by decide +kernel
theorem d_Csrs_handsDownTrap_5 : decode b_Csrs_handsDownTrap 5 = .ok (.ishr, 1) := by decide +kernel
theorem d_Csrs_handsDownTrap_6 : decode b_Csrs_handsDownTrap 6 = .ok (.iconst 1, 1) := by decide +kernel
theorem d_Csrs_handsDownTrap_7 : decode b_Csrs_handsDownTrap 7 = .ok (.iand, 1) := by decide +kernel
theorem d_Csrs_handsDownTrap_8 : decode b_Csrs_handsDownTrap 8 = .ok (.ifCond .eq 7, 3) := by decide +kernel
theorem d_Csrs_handsDownTrap_11 : decode b_Csrs_handsDownTrap 11 = .ok (.iconst 1, 1) := by decide +kernel
theorem d_Csrs_handsDownTrap_12 : decode b_Csrs_handsDownTrap 12 = .ok (.goto 4, 3) := by decide +kernel
theorem d_Csrs_handsDownTrap_15 : decode b_Csrs_handsDownTrap 15 = .ok (.iconst 0, 1) := by decide +kernel
theorem d_Csrs_handsDownTrap_16 : decode b_Csrs_handsDownTrap 16 = .ok (.ireturn, 1) := by decide +kernel
end
section
theorem d_Clint_restart_0 : decode b_Clint_restart 0 = .ok (.iconst 0, 1) := by decide +kernel
theorem d_Clint_restart_1 : decode b_Clint_restart 1 = .ok (.istore_n 1, 1) := by decide +kernel
theorem d_Clint_restart_2 : decode b_Clint_restart 2 = .ok (.iload_n 1, 1) := by decide +kernel
theorem d_Clint_restart_3 : decode b_Clint_restart 3 = .ok (.aload_n 0, 1) := by decide +kernel
theorem d_Clint_restart_4 : decode b_Clint_restart 4 = .ok (.getfield 9, 3) := by decide +kernel
theorem d_Clint_restart_7 : decode b_Clint_restart 7 = .ok (.arraylength, 1) := by decide +kernel
theorem d_Clint_restart_8 : decode b_Clint_restart 8 = .ok (.if_icmp .ge 31, 3) := by decide +kernel
theorem d_Clint_restart_11 : decode b_Clint_restart 11 = .ok (.aload_n 0, 1) := by decide +kernel
theorem d_Clint_restart_12 : decode b_Clint_restart 12 = .ok (.getfield 9, 3) := by decide +kernel
theorem d_Clint_restart_15 : decode b_Clint_restart 15 = .ok (.iload_n 1, 1) := by decide +kernel
theorem d_Clint_restart_16 : decode b_Clint_restart 16 = .ok (.iload_n 1, 1) := by decide +kernel
theorem d_Clint_restart_17 : decode b_Clint_restart 17 = .ok (.iconst 2, 1) := by decide +kernel
theorem d_Clint_restart_18 : decode b_Clint_restart 18 = .ok (.if_icmp .lt 13, 3) := by decide +kernel
theorem d_Clint_restart_21 : decode b_Clint_restart 21 = .ok (.iload_n 1, 1) := by decide +kernel
theorem d_Clint_restart_22 : decode b_Clint_restart 22 = .ok (.bipush 6, 2) := by decide +kernel
theorem d_Clint_restart_24 : decode b_Clint_restart 24 = .ok (.if_icmp .ge 7, 3) := by decide +kernel
theorem d_Clint_restart_27 : decode b_Clint_restart 27 = .ok (.iconst (-1), 1) := by decide +kernel
theorem d_Clint_restart_28 : decode b_Clint_restart 28 = .ok (.goto 4, 3) := by decide +kernel
theorem d_Clint_restart_31 : decode b_Clint_restart 31 = .ok (.iconst 0, 1) := by decide +kernel
theorem d_Clint_restart_32 : decode b_Clint_restart 32 = .ok (.iastore, 1) := by decide +kernel
theorem d_Clint_restart_33 : decode b_Clint_restart 33 = .ok (.iinc 1 1, 3) := by decide +kernel
theorem d_Clint_restart_36 : decode b_Clint_restart 36 = .ok (.goto (-34), 3) := by decide +kernel
theorem d_Clint_restart_39 : decode b_Clint_restart 39 = .ok (.return_, 1) := by decide +kernel
theorem d_Clint_isBelow_0 : decode b_Clint_isBelow 0 = .ok (.aload_n 0, 1) := by decide +kernel
theorem d_Clint_isBelow_1 : decode b_Clint_isBelow 1 = .ok (.getfield 9, 3) := by decide +kernel
theorem d_Clint_isBelow_4 : decode b_Clint_isBelow 4 = .ok (.iload_n 1, 1) := by decide +kernel
theorem d_Clint_isBelow_5 : decode b_Clint_isBelow 5 = .ok (.iconst 1, 1) := by decide +kernel
theorem d_Clint_isBelow_6 : decode b_Clint_isBelow 6 = .ok (.iadd, 1) := by decide +kernel
theorem d_Clint_isBelow_7 : decode b_Clint_isBelow 7 = .ok (.iaload, 1) := by decide +kernel
theorem d_Clint_isBelow_8 : decode b_Clint_isBelow 8 = .ok (.aload_n 0, 1) := by decide +kernel
theorem d_Clint_isBelow_9 : decode b_Clint_isBelow 9 = .ok (.getfield 9, 3) := by decide +kernel
theorem d_Clint_isBelow_12 : decode b_Clint_isBelow 12 = .ok (.iload_n 2, 1) := by decide +kernel
theorem d_Clint_isBelow_13 : decode b_Clint_isBelow 13 = .ok (.iconst 1, 1) := by decide +kernel
theorem d_Clint_isBelow_14 : decode b_Clint_isBelow 14 = .ok (.iadd, 1) := by decide +kernel
theorem d_Clint_isBelow_15 : decode b_Clint_isBelow 15 = .ok (.iaload, 1) := by decide +kernel
theorem d_Clint_isBelow_16 : decode b_Clint_isBelow 16 = .ok (.if_icmp .eq 23, 3) := by decide +kernel
theorem d_Clint_isBelow_19 : decode b_Clint_isBelow 19 = .ok (.aload_n 0, 1) := by decide +kernel
theorem d_Clint_isBelow_20 : decode b_Clint_isBelow 20 = .ok (.getfield 9, 3) := by decide +kernel
theorem d_Clint_isBelow_23 : decode b_Clint_isBelow 23 = .ok (.iload_n 1, 1) := by decide +kernel
theorem d_Clint_isBelow_24 : decode b_Clint_isBelow 24 = .ok (.iconst 1, 1) := by decide +kernel
theorem d_Clint_isBelow_25 : decode b_Clint_isBelow 25 = .ok (.iadd, 1) := by decide +kernel
theorem d_Clint_isBelow_26 : decode b_Clint_isBelow 26 = .ok (.iaload, 1) := by decide +kernel
theorem d_Clint_isBelow_27 : decode b_Clint_isBelow 27 = .ok (.aload_n 0, 1) := by decide +kernel
theorem d_Clint_isBelow_28 : decode b_Clint_isBelow 28 = .ok (.getfield 9, 3) := by decide +kernel
theorem d_Clint_isBelow_31 : decode b_Clint_isBelow 31 = .ok (.iload_n 2, 1) := by decide +kernel
theorem d_Clint_isBelow_32 : decode b_Clint_isBelow 32 = .ok (.iconst 1, 1) := by decide +kernel
theorem d_Clint_isBelow_33 : decode b_Clint_isBelow 33 = .ok (.iadd, 1) := by decide +kernel
theorem d_Clint_isBelow_34 : decode b_Clint_isBelow 34 = .ok (.iaload, 1) := by decide +kernel
theorem d_Clint_isBelow_35 : decode b_Clint_isBelow 35 = .ok (.invokestatic 22, 3) := by decide +kernel
theorem d_Clint_isBelow_38 : decode b_Clint_isBelow 38 = .ok (.ireturn, 1) := by decide +kernel
theorem d_Clint_isBelow_39 : decode b_Clint_isBelow 39 = .ok (.aload_n 0, 1) := by decide +kernel
theorem d_Clint_isBelow_40 : decode b_Clint_isBelow 40 = .ok (.getfield 9, 3) := by decide +kernel
theorem d_Clint_isBelow_43 : decode b_Clint_isBelow 43 = .ok (.iload_n 1, 1) := by decide +kernel
theorem d_Clint_isBelow_44 : decode b_Clint_isBelow 44 = .ok (.iaload, 1) := by decide +kernel
theorem d_Clint_isBelow_45 : decode b_Clint_isBelow 45 = .ok (.aload_n 0, 1) := by decide +kernel
theorem d_Clint_isBelow_46 : decode b_Clint_isBelow 46 = .ok (.getfield 9, 3) := by decide +kernel
theorem d_Clint_isBelow_49 : decode b_Clint_isBelow 49 = .ok (.iload_n 2, 1) := by decide +kernel
theorem d_Clint_isBelow_50 : decode b_Clint_isBelow 50 = .ok (.iaload, 1) := by decide +kernel
theorem d_Clint_isBelow_51 : decode b_Clint_isBelow 51 = .ok (.invokestatic 22, 3) := by decide +kernel
theorem d_Clint_isBelow_54 : decode b_Clint_isBelow 54 = .ok (.ireturn, 1) := by decide +kernel
theorem d_Clint_lines_0 : decode b_Clint_lines 0 = .ok (.aload_n 0, 1) := by decide +kernel
theorem d_Clint_lines_1 : decode b_Clint_lines 1 = .ok (.getfield 9, 3) := by decide +kernel
theorem d_Clint_lines_4 : decode b_Clint_lines 4 = .ok (.iload_n 1, 1) := by decide +kernel
theorem d_Clint_lines_5 : decode b_Clint_lines 5 = .ok (.iaload, 1) := by decide +kernel
theorem d_Clint_lines_6 : decode b_Clint_lines 6 = .ok (.ifCond .eq 8, 3) := by decide +kernel
theorem d_Clint_lines_9 : decode b_Clint_lines 9 = .ok (.bipush 8, 2) := by decide +kernel
theorem d_Clint_lines_11 : decode b_Clint_lines 11 = .ok (.goto 4, 3) := by decide +kernel
theorem d_Clint_lines_14 : decode b_Clint_lines 14 = .ok (.iconst 0, 1) := by decide +kernel
theorem d_Clint_lines_15 : decode b_Clint_lines 15 = .ok (.istore_n 2, 1) := by decide +kernel
theorem d_Clint_lines_16 : decode b_Clint_lines 16 = .ok (.aload_n 0, 1) := by decide +kernel
theorem d_Clint_lines_17 : decode b_Clint_lines 17 = .ok (.bipush 6, 2) := by decide +kernel
theorem d_Clint_lines_19 : decode b_Clint_lines 19 = .ok (.iconst 2, 1) := by decide +kernel
theorem d_Clint_lines_20 : decode b_Clint_lines 20 = .ok (.iconst 2, 1) := by decide +kernel
theorem d_Clint_lines_21 : decode b_Clint_lines 21 = .ok (.iload_n 1, 1) := by decide +kernel
theorem d_Clint_lines_22 : decode b_Clint_lines 22 = .ok (.imul, 1) := by decide +kernel
theorem d_Clint_lines_23 : decode b_Clint_lines 23 = .ok (.iadd, 1) := by decide +kernel
theorem d_Clint_lines_24 : decode b_Clint_lines 24 = .ok (.invokevirtual 18, 3) := by decide +kernel
theorem d_Clint_lines_27 : decode b_Clint_lines 27 = .ok (.istore_n 3, 1) := by decide +kernel
theorem d_Clint_lines_28 : decode b_Clint_lines 28 = .ok (.iload_n 3, 1) := by decide +kernel
theorem d_Clint_lines_29 : decode b_Clint_lines 29 = .ok (.ifCond .eq 7, 3) := by decide +kernel
theorem d_Clint_lines_32 : decode b_Clint_lines 32 = .ok (.iload_n 2, 1) := by decide +kernel
theorem d_Clint_lines_33 : decode b_Clint_lines 33 = .ok (.goto 8, 3) := by decide +kernel
theorem d_Clint_lines_36 : decode b_Clint_lines 36 = .ok (.iload_n 2, 1) := by decide +kernel
theorem d_Clint_lines_37 : decode b_Clint_lines 37 = .ok (.sipush 128, 3) := by decide +kernel
theorem d_Clint_lines_40 : decode b_Clint_lines 40 = .ok (.ior, 1) := by decide +kernel
theorem d_Clint_lines_41 : decode b_Clint_lines 41 = .ok (.ireturn, 1) := by decide +kernel
theorem d_Clint_slotAt_0 : decode b_Clint_slotAt 0 = .ok (.lload_n 0, 1) := by decide +kernel
theorem d_Clint_slotAt_1 : decode b_Clint_slotAt 1 = .ok (.ldc2_w 27, 3) := by decide +kernel
theorem d_Clint_slotAt_4 : decode b_Clint_slotAt 4 = .ok (.lcmp, 1) := by decide +kernel
theorem d_Clint_slotAt_5 : decode b_Clint_slotAt 5 = .ok (.ifCond .lt 20, 3) := by decide +kernel
theorem d_Clint_slotAt_8 : decode b_Clint_slotAt 8 = .ok (.lload_n 0, 1) := by decide +kernel
theorem d_Clint_slotAt_9 : decode b_Clint_slotAt 9 = .ok (.ldc2_w 29, 3) := by decide +kernel
theorem d_Clint_slotAt_12 : decode b_Clint_slotAt 12 = .ok (.lcmp, 1) := by decide +kernel
theorem d_Clint_slotAt_13 : decode b_Clint_slotAt 13 = .ok (.ifCond .ge 12, 3) := by decide +kernel
theorem d_Clint_slotAt_16 : decode b_Clint_slotAt 16 = .ok (.lload_n 0, 1) := by decide +kernel
theorem d_Clint_slotAt_17 : decode b_Clint_slotAt 17 = .ok (.ldc2_w 27, 3) := by decide +kernel
theorem d_Clint_slotAt_20 : decode b_Clint_slotAt 20 = .ok (.lsub, 1) := by decide +kernel
theorem d_Clint_slotAt_21 : decode b_Clint_slotAt 21 = .ok (.l2i, 1) := by decide +kernel
theorem d_Clint_slotAt_22 : decode b_Clint_slotAt 22 = .ok (.iconst 2, 1) := by decide +kernel
theorem d_Clint_slotAt_23 : decode b_Clint_slotAt 23 = .ok (.ishr, 1) := by decide +kernel
theorem d_Clint_slotAt_24 : decode b_Clint_slotAt 24 = .ok (.ireturn, 1) := by decide +kernel
theorem d_Clint_slotAt_25 : decode b_Clint_slotAt 25 = .ok (.lload_n 0, 1) := by decide +kernel
theorem d_Clint_slotAt_26 : decode b_Clint_slotAt 26 = .ok (.ldc2_w 31, 3) := by decide +kernel
theorem d_Clint_slotAt_29 : decode b_Clint_slotAt 29 = .ok (.lcmp, 1) := by decide +kernel
theorem d_Clint_slotAt_30 : decode b_Clint_slotAt 30 = .ok (.ifCond .lt 22, 3) := by decide +kernel
theorem d_Clint_slotAt_33 : decode b_Clint_slotAt 33 = .ok (.lload_n 0, 1) := by decide +kernel
theorem d_Clint_slotAt_34 : decode b_Clint_slotAt 34 = .ok (.ldc2_w 33, 3) := by decide +kernel
theorem d_Clint_slotAt_37 : decode b_Clint_slotAt 37 = .ok (.lcmp, 1) := by decide +kernel
theorem d_Clint_slotAt_38 : decode b_Clint_slotAt 38 = .ok (.ifCond .ge 14, 3) := by decide +kernel
theorem d_Clint_slotAt_41 : decode b_Clint_slotAt 41 = .ok (.iconst 2, 1) := by decide +kernel
theorem d_Clint_slotAt_42 : decode b_Clint_slotAt 42 = .ok (.lload_n 0, 1) := by decide +kernel
theorem d_Clint_slotAt_43 : decode b_Clint_slotAt 43 = .ok (.ldc2_w 31, 3) := by decide +kernel
theorem d_Clint_slotAt_46 : decode b_Clint_slotAt 46 = .ok (.lsub, 1) := by decide +kernel
theorem d_Clint_slotAt_47 : decode b_Clint_slotAt 47 = .ok (.l2i, 1) := by decide +kernel
theorem d_Clint_slotAt_48 : decode b_Clint_slotAt 48 = .ok (.iconst 2, 1) := by decide +kernel
theorem d_Clint_slotAt_49 : decode b_Clint_slotAt 49 = .ok (.ishr, 1) := by decide +kernel
theorem d_Clint_slotAt_50 : decode b_Clint_slotAt 50 = .ok (.iadd, 1) := by decide +kernel
theorem d_Clint_slotAt_51 : decode b_Clint_slotAt 51 = .ok (.ireturn, 1) := by decide +kernel
theorem d_Clint_slotAt_52 : decode b_Clint_slotAt 52 = .ok (.lload_n 0, 1) := by decide +kernel
theorem d_Clint_slotAt_53 : decode b_Clint_slotAt 53 = .ok (.ldc2_w 35, 3) := by decide +kernel
theorem d_Clint_slotAt_56 : decode b_Clint_slotAt 56 = .ok (.lcmp, 1) := by decide +kernel
theorem d_Clint_slotAt_57 : decode b_Clint_slotAt 57 = .ok (.ifCond .lt 23, 3) := by decide +kernel
theorem d_Clint_slotAt_60 : decode b_Clint_slotAt 60 = .ok (.lload_n 0, 1) := by decide +kernel
theorem d_Clint_slotAt_61 : decode b_Clint_slotAt 61 = .ok (.ldc2_w 37, 3) := by decide +kernel
theorem d_Clint_slotAt_64 : decode b_Clint_slotAt 64 = .ok (.lcmp, 1) := by decide +kernel
theorem d_Clint_slotAt_65 : decode b_Clint_slotAt 65 = .ok (.ifCond .ge 15, 3) := by decide +kernel
theorem d_Clint_slotAt_68 : decode b_Clint_slotAt 68 = .ok (.bipush 6, 2) := by decide +kernel
theorem d_Clint_slotAt_70 : decode b_Clint_slotAt 70 = .ok (.lload_n 0, 1) := by decide +kernel
theorem d_Clint_slotAt_71 : decode b_Clint_slotAt 71 = .ok (.ldc2_w 35, 3) := by decide +kernel
theorem d_Clint_slotAt_74 : decode b_Clint_slotAt 74 = .ok (.lsub, 1) := by decide +kernel
theorem d_Clint_slotAt_75 : decode b_Clint_slotAt 75 = .ok (.l2i, 1) := by decide +kernel
theorem d_Clint_slotAt_76 : decode b_Clint_slotAt 76 = .ok (.iconst 2, 1) := by decide +kernel
theorem d_Clint_slotAt_77 : decode b_Clint_slotAt 77 = .ok (.ishr, 1) := by decide +kernel
theorem d_Clint_slotAt_78 : decode b_Clint_slotAt 78 = .ok (.iadd, 1) := by decide +kernel
theorem d_Clint_slotAt_79 : decode b_Clint_slotAt 79 = .ok (.ireturn, 1) := by decide +kernel
theorem d_Clint_slotAt_80 : decode b_Clint_slotAt 80 = .ok (.iconst (-1), 1) := by decide +kernel
theorem d_Clint_slotAt_81 : decode b_Clint_slotAt 81 = .ok (.ireturn, 1) := by decide +kernel
theorem d_Clint_store_0 : decode b_Clint_store 0 = .ok (.lload_n 1, 1) := by decide +kernel
theorem d_Clint_store_1 : decode b_Clint_store 1 = .ok (.invokestatic 39, 3) := by decide +kernel
theorem d_Clint_store_4 : decode b_Clint_store 4 = .ok (.istore 4, 2) := by decide +kernel
theorem d_Clint_store_6 : decode b_Clint_store 6 = .ok (.iload 4, 2) := by decide +kernel
theorem d_Clint_store_8 : decode b_Clint_store 8 = .ok (.iconst (-1), 1) := by decide +kernel
theorem d_Clint_store_9 : decode b_Clint_store 9 = .ok (.if_icmp .eq 23, 3) := by decide +kernel
theorem d_Clint_store_12 : decode b_Clint_store 12 = .ok (.aload_n 0, 1) := by decide +kernel
theorem d_Clint_store_13 : decode b_Clint_store 13 = .ok (.getfield 9, 3) := by decide +kernel
theorem d_Clint_store_16 : decode b_Clint_store 16 = .ok (.iload 4, 2) := by decide +kernel
theorem d_Clint_store_18 : decode b_Clint_store 18 = .ok (.iload 4, 2) := by decide +kernel
theorem d_Clint_store_20 : decode b_Clint_store 20 = .ok (.iconst 2, 1) := by decide +kernel
theorem d_Clint_store_21 : decode b_Clint_store 21 = .ok (.if_icmp .ge 9, 3) := by decide +kernel
theorem d_Clint_store_24 : decode b_Clint_store 24 = .ok (.iload_n 3, 1) := by decide +kernel
theorem d_Clint_store_25 : decode b_Clint_store 25 = .ok (.iconst 1, 1) := by decide +kernel
theorem d_Clint_store_26 : decode b_Clint_store 26 = .ok (.iand, 1) := by decide +kernel
theorem d_Clint_store_27 : decode b_Clint_store 27 = .ok (.goto 4, 3) := by decide +kernel
theorem d_Clint_store_30 : decode b_Clint_store 30 = .ok (.iload_n 3, 1) := by decide +kernel
theorem d_Clint_store_31 : decode b_Clint_store 31 = .ok (.iastore, 1) := by decide +kernel
theorem d_Clint_store_32 : decode b_Clint_store 32 = .ok (.return_, 1) := by decide +kernel
theorem d_Clint_advance_0 : decode b_Clint_advance 0 = .ok (.aload_n 0, 1) := by decide +kernel
theorem d_Clint_advance_1 : decode b_Clint_advance 1 = .ok (.getfield 9, 3) := by decide +kernel
theorem d_Clint_advance_4 : decode b_Clint_advance 4 = .ok (.bipush 6, 2) := by decide +kernel
theorem d_Clint_advance_6 : decode b_Clint_advance 6 = .ok (.dup2, 1) := by decide +kernel
theorem d_Clint_advance_7 : decode b_Clint_advance 7 = .ok (.iaload, 1) := by decide +kernel
theorem d_Clint_advance_8 : decode b_Clint_advance 8 = .ok (.iconst 1, 1) := by decide +kernel
theorem d_Clint_advance_9 : decode b_Clint_advance 9 = .ok (.iadd, 1) := by decide +kernel
theorem d_Clint_advance_10 : decode b_Clint_advance 10 = .ok (.iastore, 1) := by decide +kernel
theorem d_Clint_advance_11 : decode b_Clint_advance 11 = .ok (.aload_n 0, 1) := by decide +kernel
theorem d_Clint_advance_12 : decode b_Clint_advance 12 = .ok (.getfield 9, 3) := by decide +kernel
theorem d_Clint_advance_15 : decode b_Clint_advance 15 = .ok (.bipush 6, 2) := by decide +kernel
theorem d_Clint_advance_17 : decode b_Clint_advance 17 = .ok (.iaload, 1) := by decide +kernel
theorem d_Clint_advance_18 : decode b_Clint_advance 18 = .ok (.ifCond .ne 14, 3) := by decide +kernel
theorem d_Clint_advance_21 : decode b_Clint_advance 21 = .ok (.aload_n 0, 1) := by decide +kernel
theorem d_Clint_advance_22 : decode b_Clint_advance 22 = .ok (.getfield 9, 3) := by decide +kernel
theorem d_Clint_advance_25 : decode b_Clint_advance 25 = .ok (.bipush 7, 2) := by decide +kernel
theorem d_Clint_advance_27 : decode b_Clint_advance 27 = .ok (.dup2, 1) := by decide +kernel
theorem d_Clint_advance_28 : decode b_Clint_advance 28 = .ok (.iaload, 1) := by decide +kernel
theorem d_Clint_advance_29 : decode b_Clint_advance 29 = .ok (.iconst 1, 1) := by decide +kernel
theorem d_Clint_advance_30 : decode b_Clint_advance 30 = .ok (.iadd, 1) := by decide +kernel
theorem d_Clint_advance_31 : decode b_Clint_advance 31 = .ok (.iastore, 1) := by decide +kernel
theorem d_Clint_advance_32 : decode b_Clint_advance 32 = .ok (.return_, 1) := by decide +kernel
end
section
-- ===== small facts that the walks ask for =====
theorem lw_ne {b : Int32} (h : ¬ b = 0) : ¬ (b.toInt64 &&& 4294967295) = 0 := by
  intro q
  apply h
  have e : (b.toInt64 &&& 4294967295).toBitVec = 0#64 := by rw [q]; rfl
  have e1 : (b.toBitVec.signExtend 64 &&& 4294967295#64) = 0#64 := e
  apply Int32.toBitVec_inj.mp
  show b.toBitVec = 0#32
  apply BitVec.eq_of_getLsbD_eq
  intro i hi
  have e2 := congrArg (fun z => BitVec.getLsbD z i) e1
  simp only [BitVec.getLsbD_and, BitVec.getLsbD_signExtend] at e2
  have h3 : (4294967295#64).getLsbD i = true := by
    have : ∀ j : Fin 32, (4294967295#64).getLsbD j.val = true := by decide
    exact this ⟨i, hi⟩
  have h4 : i < 64 := by omega
  rw [h3] at e2
  simp [h4, hi] at e2 ⊢
  exact e2
theorem vp_01 {x : Int32} {n : Nat} (h : x = 0 ∨ x = 1) (hn : 2 ≤ n) : vp_in x n := by
  rcases h with rfl | rfl
  · rw [vp_in_iff]; refine ⟨by decide, ?_⟩
    show (0 : Int) < n; omega
  · rw [vp_in_iff]; refine ⟨by decide, ?_⟩
    show (1 : Int) < n; omega
theorem vp_cmp {x : Int32} (h : x = 0 ∨ x = 1) : vp_in (2 + 2 * x) 8 ∧ vp_in (2 + 2 * x + 1) 8 := by
  rcases h with rfl | rfl <;> (unfold vp_in; decide)
theorem vp_pr {x : Int32} (h : 0 ≤ x) (h2 : ¬ 256 ≤ x) : vp_in x 256 := by
  rw [vp_in_iff]
  rw [Int32.le_iff_toInt_le] at h h2
  have e0 : (0 : Int32).toInt = 0 := rfl
  have e1 : (256 : Int32).toInt = 256 := rfl
  omega
theorem az_ramAlone (i : Nat) : aF_ramAlone.getD i 0 = 0 ∨ aF_ramAlone.getD i 0 = 1 := by
  rcases i with _ | _ | _ | _ | _ | i <;> first | exact Or.inl rfl | exact Or.inr rfl
theorem az_stores (i : Nat) : aF_stores.getD i 0 = 0 ∨ aF_stores.getD i 0 = 1 := by
  rcases i with _ | _ | _ | _ | _ | i <;> first | exact Or.inl rfl | exact Or.inr rfl
end
section
def sp_Alu_below (x0 : Int32) (x1 : Int32)  : Int32 :=
  if (x1 ^^^ (-2147483648)) ≤ (x0 ^^^ (-2147483648)) then
    0
  else
    1
set_option maxHeartbeats 4000000 in
set_option maxRecDepth 100000 in
theorem c_Alu_below {l : Launch} {D : va_G} {g : Nat → Nat}  (x0 : Int32) (x1 : Int32)   : CT l D g y_Alu_below b_Alu_below 2 (some .boolean) (rD 0) [.int x0, .int x1] ([]) ([]) (Qi D (fun (r : Int32) (_ : Unit) => sp_Alu_below x0 x1 = r ∧ (r = 0 ∨ r = 1)) (fun _ => [])) := by
  refine CT.of rfl (Nat.le_of_ble_eq_true rfl) (fun p e s m below meth c A ls hx hb hr hml hts hown hlocks hA hP hK hD hF hS hl => ?_)
  have hl : lv_has ls 2 [(0, .int x0), (1, .int x1)] := hl
  refine lv_iload_n hx hb d_Alu_below_0 rfl (lv_at hl 0 rfl) ?_
  refine lv_ldc (v := (-2147483648)) hx hb hown (hts _ k_29) d_Alu_below_1 ?_
  refine lv_ixor hx hb d_Alu_below_3 ?_
  refine lv_iload_n hx hb d_Alu_below_4 rfl (lv_at hl 1 rfl) ?_
  refine lv_ldc (v := (-2147483648)) hx hb hown (hts _ k_29) d_Alu_below_5 ?_
  refine lv_ixor hx hb d_Alu_below_7 ?_
  refine lv_icmp_ge (tgt := 15) hx hb d_Alu_below_8 (by decide) (fun c_1 => ?_) (fun c_1 => ?_)
  · refine lv_iconst (v := 0) hx hb d_Alu_below_15 rfl ?_
    exact rz () hx hb hr hlocks rfl hP hD hS d_Alu_below_16 ⟨by simp only [sp_Alu_below, if_pos c_1], Or.inl rfl⟩
  · refine lv_iconst (v := 1) hx hb d_Alu_below_11 rfl ?_
    refine lv_goto (tgt := 16) hx hb d_Alu_below_12 (by decide) ?_
    exact rz () hx hb hr hlocks rfl hP hD hS d_Alu_below_16 ⟨by simp only [sp_Alu_below, if_neg c_1], Or.inr rfl⟩
def sp_Fault_of (x0 : Int32)  : Int64 :=
  (-1) - x0.toInt64
set_option maxHeartbeats 4000000 in
set_option maxRecDepth 100000 in
theorem c_Fault_of {l : Launch} {D : va_G} {g : Nat → Nat}  (x0 : Int32)   : CT l D g y_Fault_of b_Fault_of 1 (some .long) (rD 0) [.int x0] ([]) ([]) (Ql D (fun (r : Int64) (_ : Unit) => sp_Fault_of x0 = r) (fun _ => [])) := by
  refine CT.of rfl (Nat.le_of_ble_eq_true rfl) (fun p e s m below meth c A ls hx hb hr hml hts hown hlocks hA hP hK hD hF hS hl => ?_)
  have hl : lv_has ls 1 [(0, .int x0)] := hl
  refine lv_ldc2 (v := (-1)) hx hb hown (hts _ k_37) d_Fault_of_0 ?_
  refine lv_iload_n hx hb d_Fault_of_3 rfl (lv_at hl 0 rfl) ?_
  refine lv_i2l hx hb d_Fault_of_4 rfl ?_
  refine lv_lsub hx hb d_Fault_of_5 ?_
  exact rl () hx hb hr hlocks hP hD hS d_Fault_of_6 (by simp only [sp_Fault_of])
def sp_Fault_causeOf (x0 : Int64)  : Int32 :=
  ((-1) - x0).toInt32
set_option maxHeartbeats 4000000 in
set_option maxRecDepth 100000 in
theorem c_Fault_causeOf {l : Launch} {D : va_G} {g : Nat → Nat}  (x0 : Int64)   : CT l D g y_Fault_causeOf b_Fault_causeOf 2 (some .int) (rD 0) [.long x0] ([]) ([]) (Qi D (fun (r : Int32) (_ : Unit) => sp_Fault_causeOf x0 = r) (fun _ => [])) := by
  refine CT.of rfl (Nat.le_of_ble_eq_true rfl) (fun p e s m below meth c A ls hx hb hr hml hts hown hlocks hA hP hK hD hF hS hl => ?_)
  have hl : lv_has ls 2 [(0, .long x0)] := hl
  refine lv_ldc2 (v := (-1)) hx hb hown (hts _ k_37) d_Fault_causeOf_0 ?_
  refine lv_lload_n hx hb d_Fault_causeOf_3 rfl (lv_at hl 0 rfl) ?_
  refine lv_lsub hx hb d_Fault_causeOf_4 ?_
  refine lv_l2i hx hb d_Fault_causeOf_5 rfl ?_
  exact ri () hx hb hr hlocks hP hD hS d_Fault_causeOf_6 (by simp only [sp_Fault_causeOf])
def sp_Field_f3 (x0 : Int32)  : Int32 :=
  (ush x0 12) &&& 7
set_option maxHeartbeats 4000000 in
set_option maxRecDepth 100000 in
theorem c_Field_f3 {l : Launch} {D : va_G} {g : Nat → Nat}  (x0 : Int32)   : CT l D g y_Field_f3 b_Field_f3 1 (some .int) (rD 0) [.int x0] ([]) ([]) (Qi D (fun (r : Int32) (_ : Unit) => sp_Field_f3 x0 = r) (fun _ => [])) := by
  refine CT.of rfl (Nat.le_of_ble_eq_true rfl) (fun p e s m below meth c A ls hx hb hr hml hts hown hlocks hA hP hK hD hF hS hl => ?_)
  have hl : lv_has ls 1 [(0, .int x0)] := hl
  refine lv_iload_n hx hb d_Field_f3_0 rfl (lv_at hl 0 rfl) ?_
  refine lv_bipush (v := 12) hx hb d_Field_f3_1 rfl ?_
  refine lv_iushr (v := ush x0 12) hx hb d_Field_f3_3 rfl ?_
  refine lv_bipush (v := 7) hx hb d_Field_f3_4 rfl ?_
  refine lv_iand hx hb d_Field_f3_6 ?_
  exact ri () hx hb hr hlocks hP hD hS d_Field_f3_7 (by simp only [sp_Field_f3])
def sp_Field_rs1 (x0 : Int32)  : Int32 :=
  (ush x0 15) &&& 31
set_option maxHeartbeats 4000000 in
set_option maxRecDepth 100000 in
theorem c_Field_rs1 {l : Launch} {D : va_G} {g : Nat → Nat}  (x0 : Int32)   : CT l D g y_Field_rs1 b_Field_rs1 1 (some .int) (rD 0) [.int x0] ([]) ([]) (Qi D (fun (r : Int32) (_ : Unit) => sp_Field_rs1 x0 = r) (fun _ => [])) := by
  refine CT.of rfl (Nat.le_of_ble_eq_true rfl) (fun p e s m below meth c A ls hx hb hr hml hts hown hlocks hA hP hK hD hF hS hl => ?_)
  have hl : lv_has ls 1 [(0, .int x0)] := hl
  refine lv_iload_n hx hb d_Field_rs1_0 rfl (lv_at hl 0 rfl) ?_
  refine lv_bipush (v := 15) hx hb d_Field_rs1_1 rfl ?_
  refine lv_iushr (v := ush x0 15) hx hb d_Field_rs1_3 rfl ?_
  refine lv_bipush (v := 31) hx hb d_Field_rs1_4 rfl ?_
  refine lv_iand hx hb d_Field_rs1_6 ?_
  exact ri () hx hb hr hlocks hP hD hS d_Field_rs1_7 (by simp only [sp_Field_rs1])
def sp_Field_immediate (x0 : Int32)  : Int32 :=
  shr x0 20
set_option maxHeartbeats 4000000 in
set_option maxRecDepth 100000 in
theorem c_Field_immediate {l : Launch} {D : va_G} {g : Nat → Nat}  (x0 : Int32)   : CT l D g y_Field_immediate b_Field_immediate 1 (some .int) (rD 0) [.int x0] ([]) ([]) (Qi D (fun (r : Int32) (_ : Unit) => sp_Field_immediate x0 = r) (fun _ => [])) := by
  refine CT.of rfl (Nat.le_of_ble_eq_true rfl) (fun p e s m below meth c A ls hx hb hr hml hts hown hlocks hA hP hK hD hF hS hl => ?_)
  have hl : lv_has ls 1 [(0, .int x0)] := hl
  refine lv_iload_n hx hb d_Field_immediate_0 rfl (lv_at hl 0 rfl) ?_
  refine lv_bipush (v := 20) hx hb d_Field_immediate_1 rfl ?_
  refine y_ishr hx hb d_Field_immediate_3 ?_
  exact ri () hx hb hr hlocks hP hD hS d_Field_immediate_4 (by simp only [sp_Field_immediate])
def sp_Field_rd (x0 : Int32)  : Int32 :=
  (ush x0 7) &&& 31
set_option maxHeartbeats 4000000 in
set_option maxRecDepth 100000 in
theorem c_Field_rd {l : Launch} {D : va_G} {g : Nat → Nat}  (x0 : Int32)   : CT l D g y_Field_rd b_Field_rd 1 (some .int) (rD 0) [.int x0] ([]) ([]) (Qi D (fun (r : Int32) (_ : Unit) => sp_Field_rd x0 = r) (fun _ => [])) := by
  refine CT.of rfl (Nat.le_of_ble_eq_true rfl) (fun p e s m below meth c A ls hx hb hr hml hts hown hlocks hA hP hK hD hF hS hl => ?_)
  have hl : lv_has ls 1 [(0, .int x0)] := hl
  refine lv_iload_n hx hb d_Field_rd_0 rfl (lv_at hl 0 rfl) ?_
  refine lv_bipush (v := 7) hx hb d_Field_rd_1 rfl ?_
  refine lv_iushr (v := ush x0 7) hx hb d_Field_rd_3 rfl ?_
  refine lv_bipush (v := 31) hx hb d_Field_rd_4 rfl ?_
  refine lv_iand hx hb d_Field_rd_6 ?_
  exact ri () hx hb hr hlocks hP hD hS d_Field_rd_7 (by simp only [sp_Field_rd])
def sp_Field_f7 (x0 : Int32)  : Int32 :=
  ush x0 25
set_option maxHeartbeats 4000000 in
set_option maxRecDepth 100000 in
theorem c_Field_f7 {l : Launch} {D : va_G} {g : Nat → Nat}  (x0 : Int32)   : CT l D g y_Field_f7 b_Field_f7 1 (some .int) (rD 0) [.int x0] ([]) ([]) (Qi D (fun (r : Int32) (_ : Unit) => sp_Field_f7 x0 = r) (fun _ => [])) := by
  refine CT.of rfl (Nat.le_of_ble_eq_true rfl) (fun p e s m below meth c A ls hx hb hr hml hts hown hlocks hA hP hK hD hF hS hl => ?_)
  have hl : lv_has ls 1 [(0, .int x0)] := hl
  refine lv_iload_n hx hb d_Field_f7_0 rfl (lv_at hl 0 rfl) ?_
  refine lv_bipush (v := 25) hx hb d_Field_f7_1 rfl ?_
  refine lv_iushr (v := ush x0 25) hx hb d_Field_f7_3 rfl ?_
  exact ri () hx hb hr hlocks hP hD hS d_Field_f7_4 (by simp only [sp_Field_f7])
def sp_Field_rs2 (x0 : Int32)  : Int32 :=
  (ush x0 20) &&& 31
set_option maxHeartbeats 4000000 in
set_option maxRecDepth 100000 in
theorem c_Field_rs2 {l : Launch} {D : va_G} {g : Nat → Nat}  (x0 : Int32)   : CT l D g y_Field_rs2 b_Field_rs2 1 (some .int) (rD 0) [.int x0] ([]) ([]) (Qi D (fun (r : Int32) (_ : Unit) => sp_Field_rs2 x0 = r) (fun _ => [])) := by
  refine CT.of rfl (Nat.le_of_ble_eq_true rfl) (fun p e s m below meth c A ls hx hb hr hml hts hown hlocks hA hP hK hD hF hS hl => ?_)
  have hl : lv_has ls 1 [(0, .int x0)] := hl
  refine lv_iload_n hx hb d_Field_rs2_0 rfl (lv_at hl 0 rfl) ?_
  refine lv_bipush (v := 20) hx hb d_Field_rs2_1 rfl ?_
  refine lv_iushr (v := ush x0 20) hx hb d_Field_rs2_3 rfl ?_
  refine lv_bipush (v := 31) hx hb d_Field_rs2_4 rfl ?_
  refine lv_iand hx hb d_Field_rs2_6 ?_
  exact ri () hx hb hr hlocks hP hD hS d_Field_rs2_7 (by simp only [sp_Field_rs2])
theorem vp_rd (w : Int32) : vp_in (sp_Field_rd w) 32 := pk_andIn _ 5 (by decide) (by decide)
theorem vp_rs1 (w : Int32) : vp_in (sp_Field_rs1 w) 32 := pk_andIn _ 5 (by decide) (by decide)
theorem vp_rs2 (w : Int32) : vp_in (sp_Field_rs2 w) 32 := pk_andIn _ 5 (by decide) (by decide)
def sp_Alu_plain (x0 : Int32) (x1 : Int32) (x2 : Int32)  : Int32 :=
  if x0 = 0 then
    x1 + x2
  else
    if x0 = 1 then
      shl x1 (x2 &&& 31)
    else
      if x0 = 2 then
        if x2 ≤ x1 then
          0
        else
          1
      else
        if x0 = 3 then
          if (sp_Alu_below x1 x2) = 0 then
            0
          else
            1
        else
          if x0 = 4 then
            x1 ^^^ x2
          else
            if x0 = 5 then
              ush x1 (x2 &&& 31)
            else
              if x0 = 6 then
                x1 ||| x2
              else
                x1 &&& x2
set_option maxHeartbeats 4000000 in
set_option maxRecDepth 100000 in
theorem c_Alu_plain {l : Launch} {D : va_G} {g : Nat → Nat}  (x0 : Int32) (x1 : Int32) (x2 : Int32)   : CT l D g y_Alu_plain b_Alu_plain 3 (some .int) (rD 1) [.int x0, .int x1, .int x2] ([]) ([]) (Qi D (fun (r : Int32) (_ : Unit) => sp_Alu_plain x0 x1 x2 = r) (fun _ => [])) := by
  refine CT.of rfl (Nat.le_of_ble_eq_true rfl) (fun p e s m below meth c A ls hx hb hr hml hts hown hlocks hA hP hK hD hF hS hl => ?_)
  have hl : lv_has ls 3 [(0, .int x0), (1, .int x1), (2, .int x2)] := hl
  refine lv_iload_n hx hb d_Alu_plain_0 rfl (lv_at hl 0 rfl) ?_
  by_cases c_1 : x0 = 0
  · refine lv_tableIn (off := 43) (tgt := 44) hx hb d_Alu_plain_1 (by rw [c_1]; decide) (by rw [c_1]; decide) (by rw [c_1]; rfl) (by decide) ?_
    refine lv_iload_n hx hb d_Alu_plain_44 rfl (lv_at hl 1 rfl) ?_
    refine lv_iload_n hx hb d_Alu_plain_45 rfl (lv_at hl 2 rfl) ?_
    refine lv_iadd hx hb d_Alu_plain_46 ?_
    exact ri () hx hb hr hlocks hP hD hS d_Alu_plain_47 (by simp only [sp_Alu_plain, if_pos c_1])
  · by_cases c_2 : x0 = 1
    · refine lv_tableIn (off := 47) (tgt := 48) hx hb d_Alu_plain_1 (by rw [c_2]; decide) (by rw [c_2]; decide) (by rw [c_2]; rfl) (by decide) ?_
      refine lv_iload_n hx hb d_Alu_plain_48 rfl (lv_at hl 1 rfl) ?_
      refine lv_iload_n hx hb d_Alu_plain_49 rfl (lv_at hl 2 rfl) ?_
      refine lv_bipush (v := 31) hx hb d_Alu_plain_50 rfl ?_
      refine lv_iand hx hb d_Alu_plain_52 ?_
      refine y_ishl hx hb d_Alu_plain_53 ?_
      exact ri () hx hb hr hlocks hP hD hS d_Alu_plain_54 (by simp only [sp_Alu_plain, if_neg c_1, if_pos c_2])
    · by_cases c_3 : x0 = 2
      · refine lv_tableIn (off := 54) (tgt := 55) hx hb d_Alu_plain_1 (by rw [c_3]; decide) (by rw [c_3]; decide) (by rw [c_3]; rfl) (by decide) ?_
        refine lv_iload_n hx hb d_Alu_plain_55 rfl (lv_at hl 1 rfl) ?_
        refine lv_iload_n hx hb d_Alu_plain_56 rfl (lv_at hl 2 rfl) ?_
        refine lv_icmp_ge (tgt := 64) hx hb d_Alu_plain_57 (by decide) (fun c_4 => ?_) (fun c_4 => ?_)
        · refine lv_iconst (v := 0) hx hb d_Alu_plain_64 rfl ?_
          exact ri () hx hb hr hlocks hP hD hS d_Alu_plain_65 (by simp only [sp_Alu_plain, if_neg c_1, if_neg c_2, if_pos c_3, if_pos c_4])
        · refine lv_iconst (v := 1) hx hb d_Alu_plain_60 rfl ?_
          refine lv_goto (tgt := 65) hx hb d_Alu_plain_61 (by decide) ?_
          exact ri () hx hb hr hlocks hP hD hS d_Alu_plain_65 (by simp only [sp_Alu_plain, if_neg c_1, if_neg c_2, if_pos c_3, if_neg c_4])
      · by_cases c_5 : x0 = 3
        · refine lv_tableIn (off := 65) (tgt := 66) hx hb d_Alu_plain_1 (by rw [c_5]; decide) (by rw [c_5]; decide) (by rw [c_5]; rfl) (by decide) ?_
          refine lv_iload_n hx hb d_Alu_plain_66 rfl (lv_at hl 1 rfl) ?_
          refine lv_iload_n hx hb d_Alu_plain_67 rfl (lv_at hl 2 rfl) ?_
          refine xi (wr := []) (W2 := fun _ => []) (xS (rest := []) ⟨hx, hb, hml, hown, hts⟩ (c_Alu_below x1 x2) mw_Alu_below ms_Alu_below k_97 ⟨rfl, rfl, Nat.le_of_ble_eq_true rfl, Nat.le_of_ble_eq_true rfl⟩ hK hP hD hS hA hF [] [] rfl rfl rfl rfl hl.1 rfl (Nat.le_of_ble_eq_true rfl) d_Alu_plain_68 ⟨Nat.zero_le _, Nat.zero_le _⟩) hP hD hS hA [] [] [] rfl rfl rfl (by decide) (fun _ => rfl) rfl (fun r_6 _ H locs h_6 hP hD hS => ?_)
          obtain ⟨h_6, z_6⟩ := h_6
          subst h_6
          refine lv_if_eq (tgt := 78) hx hb d_Alu_plain_71 (by decide) (fun c_7 => ?_) (fun c_7 => ?_)
          · refine lv_iconst (v := 0) hx hb d_Alu_plain_78 rfl ?_
            exact ri () hx hb hr hlocks hP hD hS d_Alu_plain_79 (by simp only [sp_Alu_plain, if_neg c_1, if_neg c_2, if_neg c_3, if_pos c_5, if_pos c_7])
          · refine lv_iconst (v := 1) hx hb d_Alu_plain_74 rfl ?_
            refine lv_goto (tgt := 79) hx hb d_Alu_plain_75 (by decide) ?_
            exact ri () hx hb hr hlocks hP hD hS d_Alu_plain_79 (by simp only [sp_Alu_plain, if_neg c_1, if_neg c_2, if_neg c_3, if_pos c_5, if_neg c_7])
        · by_cases c_8 : x0 = 4
          · refine lv_tableIn (off := 79) (tgt := 80) hx hb d_Alu_plain_1 (by rw [c_8]; decide) (by rw [c_8]; decide) (by rw [c_8]; rfl) (by decide) ?_
            refine lv_iload_n hx hb d_Alu_plain_80 rfl (lv_at hl 1 rfl) ?_
            refine lv_iload_n hx hb d_Alu_plain_81 rfl (lv_at hl 2 rfl) ?_
            refine lv_ixor hx hb d_Alu_plain_82 ?_
            exact ri () hx hb hr hlocks hP hD hS d_Alu_plain_83 (by simp only [sp_Alu_plain, if_neg c_1, if_neg c_2, if_neg c_3, if_neg c_5, if_pos c_8])
          · by_cases c_9 : x0 = 5
            · refine lv_tableIn (off := 83) (tgt := 84) hx hb d_Alu_plain_1 (by rw [c_9]; decide) (by rw [c_9]; decide) (by rw [c_9]; rfl) (by decide) ?_
              refine lv_iload_n hx hb d_Alu_plain_84 rfl (lv_at hl 1 rfl) ?_
              refine lv_iload_n hx hb d_Alu_plain_85 rfl (lv_at hl 2 rfl) ?_
              refine lv_bipush (v := 31) hx hb d_Alu_plain_86 rfl ?_
              refine lv_iand hx hb d_Alu_plain_88 ?_
              refine lv_iushr (v := ush x1 (x2 &&& 31)) hx hb d_Alu_plain_89 rfl ?_
              exact ri () hx hb hr hlocks hP hD hS d_Alu_plain_90 (by simp only [sp_Alu_plain, if_neg c_1, if_neg c_2, if_neg c_3, if_neg c_5, if_neg c_8, if_pos c_9])
            · by_cases c_10 : x0 = 6
              · refine lv_tableIn (off := 90) (tgt := 91) hx hb d_Alu_plain_1 (by rw [c_10]; decide) (by rw [c_10]; decide) (by rw [c_10]; rfl) (by decide) ?_
                refine lv_iload_n hx hb d_Alu_plain_91 rfl (lv_at hl 1 rfl) ?_
                refine lv_iload_n hx hb d_Alu_plain_92 rfl (lv_at hl 2 rfl) ?_
                refine lv_ior hx hb d_Alu_plain_93 ?_
                exact ri () hx hb hr hlocks hP hD hS d_Alu_plain_94 (by simp only [sp_Alu_plain, if_neg c_1, if_neg c_2, if_neg c_3, if_neg c_5, if_neg c_8, if_neg c_9, if_pos c_10])
              · refine lv_tableOut (tgt := 95) hx hb d_Alu_plain_1 (by have := lv_neT (a := 0) c_1 rfl; have := lv_neT (a := 1) c_2 rfl; have := lv_neT (a := 2) c_3 rfl; have := lv_neT (a := 3) c_5 rfl; have := lv_neT (a := 4) c_8 rfl; have := lv_neT (a := 5) c_9 rfl; have := lv_neT (a := 6) c_10 rfl; omega) (by decide) ?_
                refine lv_iload_n hx hb d_Alu_plain_95 rfl (lv_at hl 1 rfl) ?_
                refine lv_iload_n hx hb d_Alu_plain_96 rfl (lv_at hl 2 rfl) ?_
                refine lv_iand hx hb d_Alu_plain_97 ?_
                exact ri () hx hb hr hlocks hP hD hS d_Alu_plain_98 (by simp only [sp_Alu_plain, if_neg c_1, if_neg c_2, if_neg c_3, if_neg c_5, if_neg c_8, if_neg c_9, if_neg c_10])
def sp_Field_upper (x0 : Int32)  : Int32 :=
  x0 &&& (-4096)
set_option maxHeartbeats 4000000 in
set_option maxRecDepth 100000 in
theorem c_Field_upper {l : Launch} {D : va_G} {g : Nat → Nat}  (x0 : Int32)   : CT l D g y_Field_upper b_Field_upper 1 (some .int) (rD 0) [.int x0] ([]) ([]) (Qi D (fun (r : Int32) (_ : Unit) => sp_Field_upper x0 = r) (fun _ => [])) := by
  refine CT.of rfl (Nat.le_of_ble_eq_true rfl) (fun p e s m below meth c A ls hx hb hr hml hts hown hlocks hA hP hK hD hF hS hl => ?_)
  have hl : lv_has ls 1 [(0, .int x0)] := hl
  refine lv_iload_n hx hb d_Field_upper_0 rfl (lv_at hl 0 rfl) ?_
  refine lv_sipush (v := (-4096)) hx hb d_Field_upper_1 rfl ?_
  refine lv_iand hx hb d_Field_upper_4 ?_
  exact ri () hx hb hr hlocks hP hD hS d_Field_upper_5 (by simp only [sp_Field_upper])
def sp_Field_storeOffset (x0 : Int32)  : Int32 :=
  (shl (shr x0 25) 5) ||| (sp_Field_rd x0)
set_option maxHeartbeats 4000000 in
set_option maxRecDepth 100000 in
theorem c_Field_storeOffset {l : Launch} {D : va_G} {g : Nat → Nat}  (x0 : Int32)   : CT l D g y_Field_storeOffset b_Field_storeOffset 1 (some .int) (rD 1) [.int x0] ([]) ([]) (Qi D (fun (r : Int32) (_ : Unit) => sp_Field_storeOffset x0 = r) (fun _ => [])) := by
  refine CT.of rfl (Nat.le_of_ble_eq_true rfl) (fun p e s m below meth c A ls hx hb hr hml hts hown hlocks hA hP hK hD hF hS hl => ?_)
  have hl : lv_has ls 1 [(0, .int x0)] := hl
  refine lv_iload_n hx hb d_Field_storeOffset_0 rfl (lv_at hl 0 rfl) ?_
  refine lv_bipush (v := 25) hx hb d_Field_storeOffset_1 rfl ?_
  refine y_ishr hx hb d_Field_storeOffset_3 ?_
  refine lv_iconst (v := 5) hx hb d_Field_storeOffset_4 rfl ?_
  refine y_ishl hx hb d_Field_storeOffset_5 ?_
  refine lv_iload_n hx hb d_Field_storeOffset_6 rfl (lv_at hl 0 rfl) ?_
  refine xi (wr := []) (W2 := fun _ => []) (xS (rest := [.int (shl (shr x0 25) 5)]) ⟨hx, hb, hml, hown, hts⟩ (c_Field_rd x0) mw_Field_rd ms_Field_rd k_101 ⟨rfl, rfl, Nat.le_of_ble_eq_true rfl, Nat.le_of_ble_eq_true rfl⟩ hK hP hD hS hA hF [] [] rfl rfl rfl rfl hl.1 rfl (Nat.le_of_ble_eq_true rfl) d_Field_storeOffset_7 ⟨Nat.zero_le _, Nat.zero_le _⟩) hP hD hS hA [] [] [] rfl rfl rfl (by decide) (fun _ => rfl) rfl (fun r_1 _ H locs h_1 hP hD hS => ?_)
  subst h_1
  refine lv_ior hx hb d_Field_storeOffset_10 ?_
  exact ri () hx hb hr hlocks hP hD hS d_Field_storeOffset_11 (by simp only [sp_Field_storeOffset])
def sp_Alu_changed (x0 : Int32) (x1 : Int32) (x2 : Int32)  : Int32 :=
  if x0 = 0 then
    x1 + x2
  else
    if x0 = 1 then
      x2
    else
      if x0 = 2 then
        x2
      else
        if x0 = 3 then
          x2
        else
          if x0 = 4 then
            x1 ^^^ x2
          else
            if x0 = 5 then
              x2
            else
              if x0 = 6 then
                x2
              else
                if x0 = 7 then
                  x2
                else
                  if x0 = 8 then
                    x1 ||| x2
                  else
                    if x0 = 9 then
                      x2
                    else
                      if x0 = 10 then
                        x2
                      else
                        if x0 = 11 then
                          x2
                        else
                          if x0 = 12 then
                            x1 &&& x2
                          else
                            if x0 = 13 then
                              x2
                            else
                              if x0 = 14 then
                                x2
                              else
                                if x0 = 15 then
                                  x2
                                else
                                  if x0 = 16 then
                                    if x2 < x1 then x2 else x1
                                  else
                                    if x0 = 17 then
                                      x2
                                    else
                                      if x0 = 18 then
                                        x2
                                      else
                                        if x0 = 19 then
                                          x2
                                        else
                                          if x0 = 20 then
                                            if x1 < x2 then x2 else x1
                                          else
                                            if x0 = 21 then
                                              x2
                                            else
                                              if x0 = 22 then
                                                x2
                                              else
                                                if x0 = 23 then
                                                  x2
                                                else
                                                  if x0 = 24 then
                                                    if (sp_Alu_below x1 x2) = 0 then
                                                      x2
                                                    else
                                                      x1
                                                  else
                                                    if x0 = 25 then
                                                      x2
                                                    else
                                                      if x0 = 26 then
                                                        x2
                                                      else
                                                        if x0 = 27 then
                                                          x2
                                                        else
                                                          if x0 = 28 then
                                                            if (sp_Alu_below x1 x2) = 0 then
                                                              x1
                                                            else
                                                              x2
                                                          else
                                                            x2
set_option maxHeartbeats 4000000 in
set_option maxRecDepth 100000 in
theorem c_Alu_changed {l : Launch} {D : va_G} {g : Nat → Nat}  (x0 : Int32) (x1 : Int32) (x2 : Int32)   : CT l D g y_Alu_changed b_Alu_changed 3 (some .int) (rD 1) [.int x0, .int x1, .int x2] ([]) ([]) (Qi D (fun (r : Int32) (_ : Unit) => sp_Alu_changed x0 x1 x2 = r) (fun _ => [])) := by
  refine CT.of rfl (Nat.le_of_ble_eq_true rfl) (fun p e s m below meth c A ls hx hb hr hml hts hown hlocks hA hP hK hD hF hS hl => ?_)
  have hl : lv_has ls 3 [(0, .int x0), (1, .int x1), (2, .int x2)] := hl
  refine lv_iload_n hx hb d_Alu_changed_0 rfl (lv_at hl 0 rfl) ?_
  by_cases c_1 : x0 = 0
  · refine lv_tableIn (off := 131) (tgt := 132) hx hb d_Alu_changed_1 (by rw [c_1]; decide) (by rw [c_1]; decide) (by rw [c_1]; rfl) (by decide) ?_
    refine lv_iload_n hx hb d_Alu_changed_132 rfl (lv_at hl 1 rfl) ?_
    refine lv_iload_n hx hb d_Alu_changed_133 rfl (lv_at hl 2 rfl) ?_
    refine lv_iadd hx hb d_Alu_changed_134 ?_
    exact ri () hx hb hr hlocks hP hD hS d_Alu_changed_135 (by simp only [sp_Alu_changed, if_pos c_1])
  · by_cases c_2 : x0 = 1
    · refine lv_tableIn (off := 187) (tgt := 188) hx hb d_Alu_changed_1 (by rw [c_2]; decide) (by rw [c_2]; decide) (by rw [c_2]; rfl) (by decide) ?_
      refine lv_iload_n hx hb d_Alu_changed_188 rfl (lv_at hl 2 rfl) ?_
      exact ri () hx hb hr hlocks hP hD hS d_Alu_changed_189 (by simp only [sp_Alu_changed, if_neg c_1, if_pos c_2])
    · by_cases c_3 : x0 = 2
      · refine lv_tableIn (off := 187) (tgt := 188) hx hb d_Alu_changed_1 (by rw [c_3]; decide) (by rw [c_3]; decide) (by rw [c_3]; rfl) (by decide) ?_
        refine lv_iload_n hx hb d_Alu_changed_188 rfl (lv_at hl 2 rfl) ?_
        exact ri () hx hb hr hlocks hP hD hS d_Alu_changed_189 (by simp only [sp_Alu_changed, if_neg c_1, if_neg c_2, if_pos c_3])
      · by_cases c_4 : x0 = 3
        · refine lv_tableIn (off := 187) (tgt := 188) hx hb d_Alu_changed_1 (by rw [c_4]; decide) (by rw [c_4]; decide) (by rw [c_4]; rfl) (by decide) ?_
          refine lv_iload_n hx hb d_Alu_changed_188 rfl (lv_at hl 2 rfl) ?_
          exact ri () hx hb hr hlocks hP hD hS d_Alu_changed_189 (by simp only [sp_Alu_changed, if_neg c_1, if_neg c_2, if_neg c_3, if_pos c_4])
        · by_cases c_5 : x0 = 4
          · refine lv_tableIn (off := 135) (tgt := 136) hx hb d_Alu_changed_1 (by rw [c_5]; decide) (by rw [c_5]; decide) (by rw [c_5]; rfl) (by decide) ?_
            refine lv_iload_n hx hb d_Alu_changed_136 rfl (lv_at hl 1 rfl) ?_
            refine lv_iload_n hx hb d_Alu_changed_137 rfl (lv_at hl 2 rfl) ?_
            refine lv_ixor hx hb d_Alu_changed_138 ?_
            exact ri () hx hb hr hlocks hP hD hS d_Alu_changed_139 (by simp only [sp_Alu_changed, if_neg c_1, if_neg c_2, if_neg c_3, if_neg c_4, if_pos c_5])
          · by_cases c_6 : x0 = 5
            · refine lv_tableIn (off := 187) (tgt := 188) hx hb d_Alu_changed_1 (by rw [c_6]; decide) (by rw [c_6]; decide) (by rw [c_6]; rfl) (by decide) ?_
              refine lv_iload_n hx hb d_Alu_changed_188 rfl (lv_at hl 2 rfl) ?_
              exact ri () hx hb hr hlocks hP hD hS d_Alu_changed_189 (by simp only [sp_Alu_changed, if_neg c_1, if_neg c_2, if_neg c_3, if_neg c_4, if_neg c_5, if_pos c_6])
            · by_cases c_7 : x0 = 6
              · refine lv_tableIn (off := 187) (tgt := 188) hx hb d_Alu_changed_1 (by rw [c_7]; decide) (by rw [c_7]; decide) (by rw [c_7]; rfl) (by decide) ?_
                refine lv_iload_n hx hb d_Alu_changed_188 rfl (lv_at hl 2 rfl) ?_
                exact ri () hx hb hr hlocks hP hD hS d_Alu_changed_189 (by simp only [sp_Alu_changed, if_neg c_1, if_neg c_2, if_neg c_3, if_neg c_4, if_neg c_5, if_neg c_6, if_pos c_7])
              · by_cases c_8 : x0 = 7
                · refine lv_tableIn (off := 187) (tgt := 188) hx hb d_Alu_changed_1 (by rw [c_8]; decide) (by rw [c_8]; decide) (by rw [c_8]; rfl) (by decide) ?_
                  refine lv_iload_n hx hb d_Alu_changed_188 rfl (lv_at hl 2 rfl) ?_
                  exact ri () hx hb hr hlocks hP hD hS d_Alu_changed_189 (by simp only [sp_Alu_changed, if_neg c_1, if_neg c_2, if_neg c_3, if_neg c_4, if_neg c_5, if_neg c_6, if_neg c_7, if_pos c_8])
                · by_cases c_9 : x0 = 8
                  · refine lv_tableIn (off := 139) (tgt := 140) hx hb d_Alu_changed_1 (by rw [c_9]; decide) (by rw [c_9]; decide) (by rw [c_9]; rfl) (by decide) ?_
                    refine lv_iload_n hx hb d_Alu_changed_140 rfl (lv_at hl 1 rfl) ?_
                    refine lv_iload_n hx hb d_Alu_changed_141 rfl (lv_at hl 2 rfl) ?_
                    refine lv_ior hx hb d_Alu_changed_142 ?_
                    exact ri () hx hb hr hlocks hP hD hS d_Alu_changed_143 (by simp only [sp_Alu_changed, if_neg c_1, if_neg c_2, if_neg c_3, if_neg c_4, if_neg c_5, if_neg c_6, if_neg c_7, if_neg c_8, if_pos c_9])
                  · by_cases c_10 : x0 = 9
                    · refine lv_tableIn (off := 187) (tgt := 188) hx hb d_Alu_changed_1 (by rw [c_10]; decide) (by rw [c_10]; decide) (by rw [c_10]; rfl) (by decide) ?_
                      refine lv_iload_n hx hb d_Alu_changed_188 rfl (lv_at hl 2 rfl) ?_
                      exact ri () hx hb hr hlocks hP hD hS d_Alu_changed_189 (by simp only [sp_Alu_changed, if_neg c_1, if_neg c_2, if_neg c_3, if_neg c_4, if_neg c_5, if_neg c_6, if_neg c_7, if_neg c_8, if_neg c_9, if_pos c_10])
                    · by_cases c_11 : x0 = 10
                      · refine lv_tableIn (off := 187) (tgt := 188) hx hb d_Alu_changed_1 (by rw [c_11]; decide) (by rw [c_11]; decide) (by rw [c_11]; rfl) (by decide) ?_
                        refine lv_iload_n hx hb d_Alu_changed_188 rfl (lv_at hl 2 rfl) ?_
                        exact ri () hx hb hr hlocks hP hD hS d_Alu_changed_189 (by simp only [sp_Alu_changed, if_neg c_1, if_neg c_2, if_neg c_3, if_neg c_4, if_neg c_5, if_neg c_6, if_neg c_7, if_neg c_8, if_neg c_9, if_neg c_10, if_pos c_11])
                      · by_cases c_12 : x0 = 11
                        · refine lv_tableIn (off := 187) (tgt := 188) hx hb d_Alu_changed_1 (by rw [c_12]; decide) (by rw [c_12]; decide) (by rw [c_12]; rfl) (by decide) ?_
                          refine lv_iload_n hx hb d_Alu_changed_188 rfl (lv_at hl 2 rfl) ?_
                          exact ri () hx hb hr hlocks hP hD hS d_Alu_changed_189 (by simp only [sp_Alu_changed, if_neg c_1, if_neg c_2, if_neg c_3, if_neg c_4, if_neg c_5, if_neg c_6, if_neg c_7, if_neg c_8, if_neg c_9, if_neg c_10, if_neg c_11, if_pos c_12])
                        · by_cases c_13 : x0 = 12
                          · refine lv_tableIn (off := 143) (tgt := 144) hx hb d_Alu_changed_1 (by rw [c_13]; decide) (by rw [c_13]; decide) (by rw [c_13]; rfl) (by decide) ?_
                            refine lv_iload_n hx hb d_Alu_changed_144 rfl (lv_at hl 1 rfl) ?_
                            refine lv_iload_n hx hb d_Alu_changed_145 rfl (lv_at hl 2 rfl) ?_
                            refine lv_iand hx hb d_Alu_changed_146 ?_
                            exact ri () hx hb hr hlocks hP hD hS d_Alu_changed_147 (by simp only [sp_Alu_changed, if_neg c_1, if_neg c_2, if_neg c_3, if_neg c_4, if_neg c_5, if_neg c_6, if_neg c_7, if_neg c_8, if_neg c_9, if_neg c_10, if_neg c_11, if_neg c_12, if_pos c_13])
                          · by_cases c_14 : x0 = 13
                            · refine lv_tableIn (off := 187) (tgt := 188) hx hb d_Alu_changed_1 (by rw [c_14]; decide) (by rw [c_14]; decide) (by rw [c_14]; rfl) (by decide) ?_
                              refine lv_iload_n hx hb d_Alu_changed_188 rfl (lv_at hl 2 rfl) ?_
                              exact ri () hx hb hr hlocks hP hD hS d_Alu_changed_189 (by simp only [sp_Alu_changed, if_neg c_1, if_neg c_2, if_neg c_3, if_neg c_4, if_neg c_5, if_neg c_6, if_neg c_7, if_neg c_8, if_neg c_9, if_neg c_10, if_neg c_11, if_neg c_12, if_neg c_13, if_pos c_14])
                            · by_cases c_15 : x0 = 14
                              · refine lv_tableIn (off := 187) (tgt := 188) hx hb d_Alu_changed_1 (by rw [c_15]; decide) (by rw [c_15]; decide) (by rw [c_15]; rfl) (by decide) ?_
                                refine lv_iload_n hx hb d_Alu_changed_188 rfl (lv_at hl 2 rfl) ?_
                                exact ri () hx hb hr hlocks hP hD hS d_Alu_changed_189 (by simp only [sp_Alu_changed, if_neg c_1, if_neg c_2, if_neg c_3, if_neg c_4, if_neg c_5, if_neg c_6, if_neg c_7, if_neg c_8, if_neg c_9, if_neg c_10, if_neg c_11, if_neg c_12, if_neg c_13, if_neg c_14, if_pos c_15])
                              · by_cases c_16 : x0 = 15
                                · refine lv_tableIn (off := 187) (tgt := 188) hx hb d_Alu_changed_1 (by rw [c_16]; decide) (by rw [c_16]; decide) (by rw [c_16]; rfl) (by decide) ?_
                                  refine lv_iload_n hx hb d_Alu_changed_188 rfl (lv_at hl 2 rfl) ?_
                                  exact ri () hx hb hr hlocks hP hD hS d_Alu_changed_189 (by simp only [sp_Alu_changed, if_neg c_1, if_neg c_2, if_neg c_3, if_neg c_4, if_neg c_5, if_neg c_6, if_neg c_7, if_neg c_8, if_neg c_9, if_neg c_10, if_neg c_11, if_neg c_12, if_neg c_13, if_neg c_14, if_neg c_15, if_pos c_16])
                                · by_cases c_17 : x0 = 16
                                  · refine lv_tableIn (off := 147) (tgt := 148) hx hb d_Alu_changed_1 (by rw [c_17]; decide) (by rw [c_17]; decide) (by rw [c_17]; rfl) (by decide) ?_
                                    refine lv_iload_n hx hb d_Alu_changed_148 rfl (lv_at hl 1 rfl) ?_
                                    refine lv_iload_n hx hb d_Alu_changed_149 rfl (lv_at hl 2 rfl) ?_
                                    refine va_mmin hx hb (hml.trans hl.1.symm) hown (hts _ k_111) (hts _ k_112) (hts _ k_113) (hts _ k_114) (Nat.le_of_ble_eq_true rfl) (Nat.le_of_ble_eq_true rfl) (Nat.zero_le _) (Nat.zero_le _) d_Alu_changed_150 ?_
                                    exact ri () hx hb hr hlocks hP hD hS d_Alu_changed_153 (by simp only [sp_Alu_changed, if_neg c_1, if_neg c_2, if_neg c_3, if_neg c_4, if_neg c_5, if_neg c_6, if_neg c_7, if_neg c_8, if_neg c_9, if_neg c_10, if_neg c_11, if_neg c_12, if_neg c_13, if_neg c_14, if_neg c_15, if_neg c_16, if_pos c_17])
                                  · by_cases c_18 : x0 = 17
                                    · refine lv_tableIn (off := 187) (tgt := 188) hx hb d_Alu_changed_1 (by rw [c_18]; decide) (by rw [c_18]; decide) (by rw [c_18]; rfl) (by decide) ?_
                                      refine lv_iload_n hx hb d_Alu_changed_188 rfl (lv_at hl 2 rfl) ?_
                                      exact ri () hx hb hr hlocks hP hD hS d_Alu_changed_189 (by simp only [sp_Alu_changed, if_neg c_1, if_neg c_2, if_neg c_3, if_neg c_4, if_neg c_5, if_neg c_6, if_neg c_7, if_neg c_8, if_neg c_9, if_neg c_10, if_neg c_11, if_neg c_12, if_neg c_13, if_neg c_14, if_neg c_15, if_neg c_16, if_neg c_17, if_pos c_18])
                                    · by_cases c_19 : x0 = 18
                                      · refine lv_tableIn (off := 187) (tgt := 188) hx hb d_Alu_changed_1 (by rw [c_19]; decide) (by rw [c_19]; decide) (by rw [c_19]; rfl) (by decide) ?_
                                        refine lv_iload_n hx hb d_Alu_changed_188 rfl (lv_at hl 2 rfl) ?_
                                        exact ri () hx hb hr hlocks hP hD hS d_Alu_changed_189 (by simp only [sp_Alu_changed, if_neg c_1, if_neg c_2, if_neg c_3, if_neg c_4, if_neg c_5, if_neg c_6, if_neg c_7, if_neg c_8, if_neg c_9, if_neg c_10, if_neg c_11, if_neg c_12, if_neg c_13, if_neg c_14, if_neg c_15, if_neg c_16, if_neg c_17, if_neg c_18, if_pos c_19])
                                      · by_cases c_20 : x0 = 19
                                        · refine lv_tableIn (off := 187) (tgt := 188) hx hb d_Alu_changed_1 (by rw [c_20]; decide) (by rw [c_20]; decide) (by rw [c_20]; rfl) (by decide) ?_
                                          refine lv_iload_n hx hb d_Alu_changed_188 rfl (lv_at hl 2 rfl) ?_
                                          exact ri () hx hb hr hlocks hP hD hS d_Alu_changed_189 (by simp only [sp_Alu_changed, if_neg c_1, if_neg c_2, if_neg c_3, if_neg c_4, if_neg c_5, if_neg c_6, if_neg c_7, if_neg c_8, if_neg c_9, if_neg c_10, if_neg c_11, if_neg c_12, if_neg c_13, if_neg c_14, if_neg c_15, if_neg c_16, if_neg c_17, if_neg c_18, if_neg c_19, if_pos c_20])
                                        · by_cases c_21 : x0 = 20
                                          · refine lv_tableIn (off := 153) (tgt := 154) hx hb d_Alu_changed_1 (by rw [c_21]; decide) (by rw [c_21]; decide) (by rw [c_21]; rfl) (by decide) ?_
                                            refine lv_iload_n hx hb d_Alu_changed_154 rfl (lv_at hl 1 rfl) ?_
                                            refine lv_iload_n hx hb d_Alu_changed_155 rfl (lv_at hl 2 rfl) ?_
                                            refine va_mmax hx hb (hml.trans hl.1.symm) hown (hts _ k_115) (hts _ k_116) (hts _ k_113) (hts _ k_117) (Nat.le_of_ble_eq_true rfl) (Nat.le_of_ble_eq_true rfl) (Nat.zero_le _) (Nat.zero_le _) d_Alu_changed_156 ?_
                                            exact ri () hx hb hr hlocks hP hD hS d_Alu_changed_159 (by simp only [sp_Alu_changed, if_neg c_1, if_neg c_2, if_neg c_3, if_neg c_4, if_neg c_5, if_neg c_6, if_neg c_7, if_neg c_8, if_neg c_9, if_neg c_10, if_neg c_11, if_neg c_12, if_neg c_13, if_neg c_14, if_neg c_15, if_neg c_16, if_neg c_17, if_neg c_18, if_neg c_19, if_neg c_20, if_pos c_21])
                                          · by_cases c_22 : x0 = 21
                                            · refine lv_tableIn (off := 187) (tgt := 188) hx hb d_Alu_changed_1 (by rw [c_22]; decide) (by rw [c_22]; decide) (by rw [c_22]; rfl) (by decide) ?_
                                              refine lv_iload_n hx hb d_Alu_changed_188 rfl (lv_at hl 2 rfl) ?_
                                              exact ri () hx hb hr hlocks hP hD hS d_Alu_changed_189 (by simp only [sp_Alu_changed, if_neg c_1, if_neg c_2, if_neg c_3, if_neg c_4, if_neg c_5, if_neg c_6, if_neg c_7, if_neg c_8, if_neg c_9, if_neg c_10, if_neg c_11, if_neg c_12, if_neg c_13, if_neg c_14, if_neg c_15, if_neg c_16, if_neg c_17, if_neg c_18, if_neg c_19, if_neg c_20, if_neg c_21, if_pos c_22])
                                            · by_cases c_23 : x0 = 22
                                              · refine lv_tableIn (off := 187) (tgt := 188) hx hb d_Alu_changed_1 (by rw [c_23]; decide) (by rw [c_23]; decide) (by rw [c_23]; rfl) (by decide) ?_
                                                refine lv_iload_n hx hb d_Alu_changed_188 rfl (lv_at hl 2 rfl) ?_
                                                exact ri () hx hb hr hlocks hP hD hS d_Alu_changed_189 (by simp only [sp_Alu_changed, if_neg c_1, if_neg c_2, if_neg c_3, if_neg c_4, if_neg c_5, if_neg c_6, if_neg c_7, if_neg c_8, if_neg c_9, if_neg c_10, if_neg c_11, if_neg c_12, if_neg c_13, if_neg c_14, if_neg c_15, if_neg c_16, if_neg c_17, if_neg c_18, if_neg c_19, if_neg c_20, if_neg c_21, if_neg c_22, if_pos c_23])
                                              · by_cases c_24 : x0 = 23
                                                · refine lv_tableIn (off := 187) (tgt := 188) hx hb d_Alu_changed_1 (by rw [c_24]; decide) (by rw [c_24]; decide) (by rw [c_24]; rfl) (by decide) ?_
                                                  refine lv_iload_n hx hb d_Alu_changed_188 rfl (lv_at hl 2 rfl) ?_
                                                  exact ri () hx hb hr hlocks hP hD hS d_Alu_changed_189 (by simp only [sp_Alu_changed, if_neg c_1, if_neg c_2, if_neg c_3, if_neg c_4, if_neg c_5, if_neg c_6, if_neg c_7, if_neg c_8, if_neg c_9, if_neg c_10, if_neg c_11, if_neg c_12, if_neg c_13, if_neg c_14, if_neg c_15, if_neg c_16, if_neg c_17, if_neg c_18, if_neg c_19, if_neg c_20, if_neg c_21, if_neg c_22, if_neg c_23, if_pos c_24])
                                                · by_cases c_25 : x0 = 24
                                                  · refine lv_tableIn (off := 159) (tgt := 160) hx hb d_Alu_changed_1 (by rw [c_25]; decide) (by rw [c_25]; decide) (by rw [c_25]; rfl) (by decide) ?_
                                                    refine lv_iload_n hx hb d_Alu_changed_160 rfl (lv_at hl 1 rfl) ?_
                                                    refine lv_iload_n hx hb d_Alu_changed_161 rfl (lv_at hl 2 rfl) ?_
                                                    refine xi (wr := []) (W2 := fun _ => []) (xS (rest := []) ⟨hx, hb, hml, hown, hts⟩ (c_Alu_below x1 x2) mw_Alu_below ms_Alu_below k_97 ⟨rfl, rfl, Nat.le_of_ble_eq_true rfl, Nat.le_of_ble_eq_true rfl⟩ hK hP hD hS hA hF [] [] rfl rfl rfl rfl hl.1 rfl (Nat.le_of_ble_eq_true rfl) d_Alu_changed_162 ⟨Nat.zero_le _, Nat.zero_le _⟩) hP hD hS hA [] [] [] rfl rfl rfl (by decide) (fun _ => rfl) rfl (fun r_26 _ H locs h_26 hP hD hS => ?_)
                                                    obtain ⟨h_26, z_26⟩ := h_26
                                                    subst h_26
                                                    refine lv_if_eq (tgt := 172) hx hb d_Alu_changed_165 (by decide) (fun c_27 => ?_) (fun c_27 => ?_)
                                                    · refine lv_iload_n hx hb d_Alu_changed_172 rfl (lv_at hl 2 rfl) ?_
                                                      exact ri () hx hb hr hlocks hP hD hS d_Alu_changed_173 (by simp only [sp_Alu_changed, if_neg c_1, if_neg c_2, if_neg c_3, if_neg c_4, if_neg c_5, if_neg c_6, if_neg c_7, if_neg c_8, if_neg c_9, if_neg c_10, if_neg c_11, if_neg c_12, if_neg c_13, if_neg c_14, if_neg c_15, if_neg c_16, if_neg c_17, if_neg c_18, if_neg c_19, if_neg c_20, if_neg c_21, if_neg c_22, if_neg c_23, if_neg c_24, if_pos c_25, if_pos c_27])
                                                    · refine lv_iload_n hx hb d_Alu_changed_168 rfl (lv_at hl 1 rfl) ?_
                                                      refine lv_goto (tgt := 173) hx hb d_Alu_changed_169 (by decide) ?_
                                                      exact ri () hx hb hr hlocks hP hD hS d_Alu_changed_173 (by simp only [sp_Alu_changed, if_neg c_1, if_neg c_2, if_neg c_3, if_neg c_4, if_neg c_5, if_neg c_6, if_neg c_7, if_neg c_8, if_neg c_9, if_neg c_10, if_neg c_11, if_neg c_12, if_neg c_13, if_neg c_14, if_neg c_15, if_neg c_16, if_neg c_17, if_neg c_18, if_neg c_19, if_neg c_20, if_neg c_21, if_neg c_22, if_neg c_23, if_neg c_24, if_pos c_25, if_neg c_27])
                                                  · by_cases c_28 : x0 = 25
                                                    · refine lv_tableIn (off := 187) (tgt := 188) hx hb d_Alu_changed_1 (by rw [c_28]; decide) (by rw [c_28]; decide) (by rw [c_28]; rfl) (by decide) ?_
                                                      refine lv_iload_n hx hb d_Alu_changed_188 rfl (lv_at hl 2 rfl) ?_
                                                      exact ri () hx hb hr hlocks hP hD hS d_Alu_changed_189 (by simp only [sp_Alu_changed, if_neg c_1, if_neg c_2, if_neg c_3, if_neg c_4, if_neg c_5, if_neg c_6, if_neg c_7, if_neg c_8, if_neg c_9, if_neg c_10, if_neg c_11, if_neg c_12, if_neg c_13, if_neg c_14, if_neg c_15, if_neg c_16, if_neg c_17, if_neg c_18, if_neg c_19, if_neg c_20, if_neg c_21, if_neg c_22, if_neg c_23, if_neg c_24, if_neg c_25, if_pos c_28])
                                                    · by_cases c_29 : x0 = 26
                                                      · refine lv_tableIn (off := 187) (tgt := 188) hx hb d_Alu_changed_1 (by rw [c_29]; decide) (by rw [c_29]; decide) (by rw [c_29]; rfl) (by decide) ?_
                                                        refine lv_iload_n hx hb d_Alu_changed_188 rfl (lv_at hl 2 rfl) ?_
                                                        exact ri () hx hb hr hlocks hP hD hS d_Alu_changed_189 (by simp only [sp_Alu_changed, if_neg c_1, if_neg c_2, if_neg c_3, if_neg c_4, if_neg c_5, if_neg c_6, if_neg c_7, if_neg c_8, if_neg c_9, if_neg c_10, if_neg c_11, if_neg c_12, if_neg c_13, if_neg c_14, if_neg c_15, if_neg c_16, if_neg c_17, if_neg c_18, if_neg c_19, if_neg c_20, if_neg c_21, if_neg c_22, if_neg c_23, if_neg c_24, if_neg c_25, if_neg c_28, if_pos c_29])
                                                      · by_cases c_30 : x0 = 27
                                                        · refine lv_tableIn (off := 187) (tgt := 188) hx hb d_Alu_changed_1 (by rw [c_30]; decide) (by rw [c_30]; decide) (by rw [c_30]; rfl) (by decide) ?_
                                                          refine lv_iload_n hx hb d_Alu_changed_188 rfl (lv_at hl 2 rfl) ?_
                                                          exact ri () hx hb hr hlocks hP hD hS d_Alu_changed_189 (by simp only [sp_Alu_changed, if_neg c_1, if_neg c_2, if_neg c_3, if_neg c_4, if_neg c_5, if_neg c_6, if_neg c_7, if_neg c_8, if_neg c_9, if_neg c_10, if_neg c_11, if_neg c_12, if_neg c_13, if_neg c_14, if_neg c_15, if_neg c_16, if_neg c_17, if_neg c_18, if_neg c_19, if_neg c_20, if_neg c_21, if_neg c_22, if_neg c_23, if_neg c_24, if_neg c_25, if_neg c_28, if_neg c_29, if_pos c_30])
                                                        · by_cases c_31 : x0 = 28
                                                          · refine lv_tableIn (off := 173) (tgt := 174) hx hb d_Alu_changed_1 (by rw [c_31]; decide) (by rw [c_31]; decide) (by rw [c_31]; rfl) (by decide) ?_
                                                            refine lv_iload_n hx hb d_Alu_changed_174 rfl (lv_at hl 1 rfl) ?_
                                                            refine lv_iload_n hx hb d_Alu_changed_175 rfl (lv_at hl 2 rfl) ?_
                                                            refine xi (wr := []) (W2 := fun _ => []) (xS (rest := []) ⟨hx, hb, hml, hown, hts⟩ (c_Alu_below x1 x2) mw_Alu_below ms_Alu_below k_97 ⟨rfl, rfl, Nat.le_of_ble_eq_true rfl, Nat.le_of_ble_eq_true rfl⟩ hK hP hD hS hA hF [] [] rfl rfl rfl rfl hl.1 rfl (Nat.le_of_ble_eq_true rfl) d_Alu_changed_176 ⟨Nat.zero_le _, Nat.zero_le _⟩) hP hD hS hA [] [] [] rfl rfl rfl (by decide) (fun _ => rfl) rfl (fun r_32 _ H locs h_32 hP hD hS => ?_)
                                                            obtain ⟨h_32, z_32⟩ := h_32
                                                            subst h_32
                                                            refine lv_if_eq (tgt := 186) hx hb d_Alu_changed_179 (by decide) (fun c_33 => ?_) (fun c_33 => ?_)
                                                            · refine lv_iload_n hx hb d_Alu_changed_186 rfl (lv_at hl 1 rfl) ?_
                                                              exact ri () hx hb hr hlocks hP hD hS d_Alu_changed_187 (by simp only [sp_Alu_changed, if_neg c_1, if_neg c_2, if_neg c_3, if_neg c_4, if_neg c_5, if_neg c_6, if_neg c_7, if_neg c_8, if_neg c_9, if_neg c_10, if_neg c_11, if_neg c_12, if_neg c_13, if_neg c_14, if_neg c_15, if_neg c_16, if_neg c_17, if_neg c_18, if_neg c_19, if_neg c_20, if_neg c_21, if_neg c_22, if_neg c_23, if_neg c_24, if_neg c_25, if_neg c_28, if_neg c_29, if_neg c_30, if_pos c_31, if_pos c_33])
                                                            · refine lv_iload_n hx hb d_Alu_changed_182 rfl (lv_at hl 2 rfl) ?_
                                                              refine lv_goto (tgt := 187) hx hb d_Alu_changed_183 (by decide) ?_
                                                              exact ri () hx hb hr hlocks hP hD hS d_Alu_changed_187 (by simp only [sp_Alu_changed, if_neg c_1, if_neg c_2, if_neg c_3, if_neg c_4, if_neg c_5, if_neg c_6, if_neg c_7, if_neg c_8, if_neg c_9, if_neg c_10, if_neg c_11, if_neg c_12, if_neg c_13, if_neg c_14, if_neg c_15, if_neg c_16, if_neg c_17, if_neg c_18, if_neg c_19, if_neg c_20, if_neg c_21, if_neg c_22, if_neg c_23, if_neg c_24, if_neg c_25, if_neg c_28, if_neg c_29, if_neg c_30, if_pos c_31, if_neg c_33])
                                                          · refine lv_tableOut (tgt := 188) hx hb d_Alu_changed_1 (by have := lv_neT (a := 0) c_1 rfl; have := lv_neT (a := 1) c_2 rfl; have := lv_neT (a := 2) c_3 rfl; have := lv_neT (a := 3) c_4 rfl; have := lv_neT (a := 4) c_5 rfl; have := lv_neT (a := 5) c_6 rfl; have := lv_neT (a := 6) c_7 rfl; have := lv_neT (a := 7) c_8 rfl; have := lv_neT (a := 8) c_9 rfl; have := lv_neT (a := 9) c_10 rfl; have := lv_neT (a := 10) c_11 rfl; have := lv_neT (a := 11) c_12 rfl; have := lv_neT (a := 12) c_13 rfl; have := lv_neT (a := 13) c_14 rfl; have := lv_neT (a := 14) c_15 rfl; have := lv_neT (a := 15) c_16 rfl; have := lv_neT (a := 16) c_17 rfl; have := lv_neT (a := 17) c_18 rfl; have := lv_neT (a := 18) c_19 rfl; have := lv_neT (a := 19) c_20 rfl; have := lv_neT (a := 20) c_21 rfl; have := lv_neT (a := 21) c_22 rfl; have := lv_neT (a := 22) c_23 rfl; have := lv_neT (a := 23) c_24 rfl; have := lv_neT (a := 24) c_25 rfl; have := lv_neT (a := 25) c_28 rfl; have := lv_neT (a := 26) c_29 rfl; have := lv_neT (a := 27) c_30 rfl; have := lv_neT (a := 28) c_31 rfl; omega) (by decide) ?_
                                                            refine lv_iload_n hx hb d_Alu_changed_188 rfl (lv_at hl 2 rfl) ?_
                                                            exact ri () hx hb hr hlocks hP hD hS d_Alu_changed_189 (by simp only [sp_Alu_changed, if_neg c_1, if_neg c_2, if_neg c_3, if_neg c_4, if_neg c_5, if_neg c_6, if_neg c_7, if_neg c_8, if_neg c_9, if_neg c_10, if_neg c_11, if_neg c_12, if_neg c_13, if_neg c_14, if_neg c_15, if_neg c_16, if_neg c_17, if_neg c_18, if_neg c_19, if_neg c_20, if_neg c_21, if_neg c_22, if_neg c_23, if_neg c_24, if_neg c_25, if_neg c_28, if_neg c_29, if_neg c_30, if_neg c_31])
def sp_Alu_multiplied (x0 : Int32) (x1 : Int32) (x2 : Int32)  : Int32 :=
  if x0 = 1 then
    (lshr (x1.toInt64 * x2.toInt64) 32).toInt32
  else
    if x0 = 2 then
      (lshr (x1.toInt64 * (x2.toInt64 &&& 4294967295)) 32).toInt32
    else
      if x0 = 3 then
        (lshr ((x1.toInt64 &&& 4294967295) * (x2.toInt64 &&& 4294967295)) 32).toInt32
      else
        x1 * x2
set_option maxHeartbeats 4000000 in
set_option maxRecDepth 100000 in
theorem c_Alu_multiplied {l : Launch} {D : va_G} {g : Nat → Nat}  (x0 : Int32) (x1 : Int32) (x2 : Int32)   : CT l D g y_Alu_multiplied b_Alu_multiplied 3 (some .int) (rD 0) [.int x0, .int x1, .int x2] ([]) ([]) (Qi D (fun (r : Int32) (_ : Unit) => sp_Alu_multiplied x0 x1 x2 = r) (fun _ => [])) := by
  refine CT.of rfl (Nat.le_of_ble_eq_true rfl) (fun p e s m below meth c A ls hx hb hr hml hts hown hlocks hA hP hK hD hF hS hl => ?_)
  have hl : lv_has ls 3 [(0, .int x0), (1, .int x1), (2, .int x2)] := hl
  refine lv_iload_n hx hb d_Alu_multiplied_0 rfl (lv_at hl 0 rfl) ?_
  by_cases c_1 : x0 = 1
  · refine lv_tableIn (off := 27) (tgt := 28) hx hb d_Alu_multiplied_1 (by rw [c_1]; decide) (by rw [c_1]; decide) (by rw [c_1]; rfl) (by decide) ?_
    refine lv_iload_n hx hb d_Alu_multiplied_28 rfl (lv_at hl 1 rfl) ?_
    refine lv_i2l hx hb d_Alu_multiplied_29 rfl ?_
    refine lv_iload_n hx hb d_Alu_multiplied_30 rfl (lv_at hl 2 rfl) ?_
    refine lv_i2l hx hb d_Alu_multiplied_31 rfl ?_
    refine lv_lmul hx hb d_Alu_multiplied_32 ?_
    refine lv_bipush (v := 32) hx hb d_Alu_multiplied_33 rfl ?_
    refine lv_lshr (v := lshr (x1.toInt64 * x2.toInt64) 32) hx hb d_Alu_multiplied_35 rfl ?_
    refine lv_l2i hx hb d_Alu_multiplied_36 rfl ?_
    exact ri () hx hb hr hlocks hP hD hS d_Alu_multiplied_37 (by simp only [sp_Alu_multiplied, if_pos c_1])
  · by_cases c_2 : x0 = 2
    · refine lv_tableIn (off := 37) (tgt := 38) hx hb d_Alu_multiplied_1 (by rw [c_2]; decide) (by rw [c_2]; decide) (by rw [c_2]; rfl) (by decide) ?_
      refine lv_iload_n hx hb d_Alu_multiplied_38 rfl (lv_at hl 1 rfl) ?_
      refine lv_i2l hx hb d_Alu_multiplied_39 rfl ?_
      refine lv_iload_n hx hb d_Alu_multiplied_40 rfl (lv_at hl 2 rfl) ?_
      refine lv_i2l hx hb d_Alu_multiplied_41 rfl ?_
      refine lv_ldc2 (v := 4294967295) hx hb hown (hts _ k_125) d_Alu_multiplied_42 ?_
      refine lv_land hx hb d_Alu_multiplied_45 ?_
      refine lv_lmul hx hb d_Alu_multiplied_46 ?_
      refine lv_bipush (v := 32) hx hb d_Alu_multiplied_47 rfl ?_
      refine lv_lshr (v := lshr (x1.toInt64 * (x2.toInt64 &&& 4294967295)) 32) hx hb d_Alu_multiplied_49 rfl ?_
      refine lv_l2i hx hb d_Alu_multiplied_50 rfl ?_
      exact ri () hx hb hr hlocks hP hD hS d_Alu_multiplied_51 (by simp only [sp_Alu_multiplied, if_neg c_1, if_pos c_2])
    · by_cases c_3 : x0 = 3
      · refine lv_tableIn (off := 51) (tgt := 52) hx hb d_Alu_multiplied_1 (by rw [c_3]; decide) (by rw [c_3]; decide) (by rw [c_3]; rfl) (by decide) ?_
        refine lv_iload_n hx hb d_Alu_multiplied_52 rfl (lv_at hl 1 rfl) ?_
        refine lv_i2l hx hb d_Alu_multiplied_53 rfl ?_
        refine lv_ldc2 (v := 4294967295) hx hb hown (hts _ k_125) d_Alu_multiplied_54 ?_
        refine lv_land hx hb d_Alu_multiplied_57 ?_
        refine lv_iload_n hx hb d_Alu_multiplied_58 rfl (lv_at hl 2 rfl) ?_
        refine lv_i2l hx hb d_Alu_multiplied_59 rfl ?_
        refine lv_ldc2 (v := 4294967295) hx hb hown (hts _ k_125) d_Alu_multiplied_60 ?_
        refine lv_land hx hb d_Alu_multiplied_63 ?_
        refine lv_lmul hx hb d_Alu_multiplied_64 ?_
        refine lv_bipush (v := 32) hx hb d_Alu_multiplied_65 rfl ?_
        refine lv_lshr (v := lshr ((x1.toInt64 &&& 4294967295) * (x2.toInt64 &&& 4294967295)) 32) hx hb d_Alu_multiplied_67 rfl ?_
        refine lv_l2i hx hb d_Alu_multiplied_68 rfl ?_
        exact ri () hx hb hr hlocks hP hD hS d_Alu_multiplied_69 (by simp only [sp_Alu_multiplied, if_neg c_1, if_neg c_2, if_pos c_3])
      · refine lv_tableOut (tgt := 70) hx hb d_Alu_multiplied_1 (by have := lv_neT (a := 1) c_1 rfl; have := lv_neT (a := 2) c_2 rfl; have := lv_neT (a := 3) c_3 rfl; omega) (by decide) ?_
        refine lv_iload_n hx hb d_Alu_multiplied_70 rfl (lv_at hl 1 rfl) ?_
        refine lv_iload_n hx hb d_Alu_multiplied_71 rfl (lv_at hl 2 rfl) ?_
        refine lv_imul hx hb d_Alu_multiplied_72 ?_
        exact ri () hx hb hr hlocks hP hD hS d_Alu_multiplied_73 (by simp only [sp_Alu_multiplied, if_neg c_1, if_neg c_2, if_neg c_3])
def sp_Alu_divided (x0 : Int32) (x1 : Int32) (x2 : Int32)  : Int32 :=
  if x2 = 0 then
    if 6 ≤ x0 then
      x1
    else
      (-1)
  else
    if x0 = 4 then
      x1 / x2
    else
      if x0 = 5 then
        ((x1.toInt64 &&& 4294967295) / (x2.toInt64 &&& 4294967295)).toInt32
      else
        if x0 = 6 then
          x1 - x1 / x2 * x2
        else
          ((x1.toInt64 &&& 4294967295) - (x1.toInt64 &&& 4294967295) / (x2.toInt64 &&& 4294967295) * (x2.toInt64 &&& 4294967295)).toInt32
set_option maxHeartbeats 4000000 in
set_option maxRecDepth 100000 in
theorem c_Alu_divided {l : Launch} {D : va_G} {g : Nat → Nat}  (x0 : Int32) (x1 : Int32) (x2 : Int32)   : CT l D g y_Alu_divided b_Alu_divided 3 (some .int) (rD 0) [.int x0, .int x1, .int x2] ([]) ([]) (Qi D (fun (r : Int32) (_ : Unit) => sp_Alu_divided x0 x1 x2 = r) (fun _ => [])) := by
  refine CT.of rfl (Nat.le_of_ble_eq_true rfl) (fun p e s m below meth c A ls hx hb hr hml hts hown hlocks hA hP hK hD hF hS hl => ?_)
  have hl : lv_has ls 3 [(0, .int x0), (1, .int x1), (2, .int x2)] := hl
  refine lv_iload_n hx hb d_Alu_divided_0 rfl (lv_at hl 2 rfl) ?_
  refine lv_if_ne (tgt := 16) hx hb d_Alu_divided_1 (by decide) (fun c_1 => ?_) (fun c_1 => ?_)
  · refine lv_iload_n hx hb d_Alu_divided_16 rfl (lv_at hl 0 rfl) ?_
    by_cases c_2 : x0 = 4
    · refine lv_tableIn (off := 27) (tgt := 44) hx hb d_Alu_divided_17 (by rw [c_2]; decide) (by rw [c_2]; decide) (by rw [c_2]; rfl) (by decide) ?_
      refine lv_iload_n hx hb d_Alu_divided_44 rfl (lv_at hl 1 rfl) ?_
      refine lv_iload_n hx hb d_Alu_divided_45 rfl (lv_at hl 2 rfl) ?_
      refine lv_idiv hx hb d_Alu_divided_46 c_1 ?_
      exact ri () hx hb hr hlocks hP hD hS d_Alu_divided_47 (by simp only [sp_Alu_divided, if_neg c_1, if_pos c_2])
    · by_cases c_3 : x0 = 5
      · refine lv_tableIn (off := 31) (tgt := 48) hx hb d_Alu_divided_17 (by rw [c_3]; decide) (by rw [c_3]; decide) (by rw [c_3]; rfl) (by decide) ?_
        refine lv_iload_n hx hb d_Alu_divided_48 rfl (lv_at hl 1 rfl) ?_
        refine lv_i2l hx hb d_Alu_divided_49 rfl ?_
        refine lv_ldc2 (v := 4294967295) hx hb hown (hts _ k_125) d_Alu_divided_50 ?_
        refine lv_land hx hb d_Alu_divided_53 ?_
        refine lv_iload_n hx hb d_Alu_divided_54 rfl (lv_at hl 2 rfl) ?_
        refine lv_i2l hx hb d_Alu_divided_55 rfl ?_
        refine lv_ldc2 (v := 4294967295) hx hb hown (hts _ k_125) d_Alu_divided_56 ?_
        refine lv_land hx hb d_Alu_divided_59 ?_
        refine lv_ldiv hx hb d_Alu_divided_60 (lw_ne c_1) ?_
        refine lv_l2i hx hb d_Alu_divided_61 rfl ?_
        exact ri () hx hb hr hlocks hP hD hS d_Alu_divided_62 (by simp only [sp_Alu_divided, if_neg c_1, if_neg c_2, if_pos c_3])
      · by_cases c_4 : x0 = 6
        · refine lv_tableIn (off := 46) (tgt := 63) hx hb d_Alu_divided_17 (by rw [c_4]; decide) (by rw [c_4]; decide) (by rw [c_4]; rfl) (by decide) ?_
          refine lv_iload_n hx hb d_Alu_divided_63 rfl (lv_at hl 1 rfl) ?_
          refine lv_iload_n hx hb d_Alu_divided_64 rfl (lv_at hl 2 rfl) ?_
          refine lv_irem hx hb d_Alu_divided_65 c_1 ?_
          exact ri () hx hb hr hlocks hP hD hS d_Alu_divided_66 (by simp only [sp_Alu_divided, if_neg c_1, if_neg c_2, if_neg c_3, if_pos c_4])
        · refine lv_tableOut (tgt := 67) hx hb d_Alu_divided_17 (by have := lv_neT (a := 4) c_2 rfl; have := lv_neT (a := 5) c_3 rfl; have := lv_neT (a := 6) c_4 rfl; omega) (by decide) ?_
          refine lv_iload_n hx hb d_Alu_divided_67 rfl (lv_at hl 1 rfl) ?_
          refine lv_i2l hx hb d_Alu_divided_68 rfl ?_
          refine lv_ldc2 (v := 4294967295) hx hb hown (hts _ k_125) d_Alu_divided_69 ?_
          refine lv_land hx hb d_Alu_divided_72 ?_
          refine lv_iload_n hx hb d_Alu_divided_73 rfl (lv_at hl 2 rfl) ?_
          refine lv_i2l hx hb d_Alu_divided_74 rfl ?_
          refine lv_ldc2 (v := 4294967295) hx hb hown (hts _ k_125) d_Alu_divided_75 ?_
          refine lv_land hx hb d_Alu_divided_78 ?_
          refine lv_lrem hx hb d_Alu_divided_79 (lw_ne c_1) ?_
          refine lv_l2i hx hb d_Alu_divided_80 rfl ?_
          exact ri () hx hb hr hlocks hP hD hS d_Alu_divided_81 (by simp only [sp_Alu_divided, if_neg c_1, if_neg c_2, if_neg c_3, if_neg c_4])
  · refine lv_iload_n hx hb d_Alu_divided_4 rfl (lv_at hl 0 rfl) ?_
    refine lv_bipush (v := 6) hx hb d_Alu_divided_5 rfl ?_
    refine lv_icmp_ge (tgt := 14) hx hb d_Alu_divided_7 (by decide) (fun c_5 => ?_) (fun c_5 => ?_)
    · refine lv_iload_n hx hb d_Alu_divided_14 rfl (lv_at hl 1 rfl) ?_
      exact ri () hx hb hr hlocks hP hD hS d_Alu_divided_15 (by simp only [sp_Alu_divided, if_pos c_1, if_pos c_5])
    · refine lv_iconst (v := (-1)) hx hb d_Alu_divided_10 rfl ?_
      refine lv_goto (tgt := 15) hx hb d_Alu_divided_11 (by decide) ?_
      exact ri () hx hb hr hlocks hP hD hS d_Alu_divided_15 (by simp only [sp_Alu_divided, if_pos c_1, if_neg c_5])
def sp_Alu_branches (x0 : Int32) (x1 : Int32) (x2 : Int32)  : Int32 :=
  if x0 = 0 then
    if x1 = x2 then
      1
    else
      0
  else
    if x0 = 1 then
      if x1 = x2 then
        0
      else
        1
    else
      if x0 = 2 then
        if (sp_Alu_below x1 x2) = 0 then
          1
        else
          0
      else
        if x0 = 3 then
          if (sp_Alu_below x1 x2) = 0 then
            1
          else
            0
        else
          if x0 = 4 then
            if x2 ≤ x1 then
              0
            else
              1
          else
            if x0 = 5 then
              if x1 < x2 then
                0
              else
                1
            else
              if x0 = 6 then
                sp_Alu_below x1 x2
              else
                if (sp_Alu_below x1 x2) = 0 then
                  1
                else
                  0
set_option maxHeartbeats 4000000 in
set_option maxRecDepth 100000 in
theorem c_Alu_branches {l : Launch} {D : va_G} {g : Nat → Nat}  (x0 : Int32) (x1 : Int32) (x2 : Int32)   : CT l D g y_Alu_branches b_Alu_branches 3 (some .boolean) (rD 1) [.int x0, .int x1, .int x2] ([]) ([]) (Qi D (fun (r : Int32) (_ : Unit) => sp_Alu_branches x0 x1 x2 = r ∧ (r = 0 ∨ r = 1)) (fun _ => [])) := by
  refine CT.of rfl (Nat.le_of_ble_eq_true rfl) (fun p e s m below meth c A ls hx hb hr hml hts hown hlocks hA hP hK hD hF hS hl => ?_)
  have hl : lv_has ls 3 [(0, .int x0), (1, .int x1), (2, .int x2)] := hl
  refine lv_iload_n hx hb d_Alu_branches_0 rfl (lv_at hl 0 rfl) ?_
  by_cases c_1 : x0 = 0
  · refine lv_tableIn (off := 43) (tgt := 44) hx hb d_Alu_branches_1 (by rw [c_1]; decide) (by rw [c_1]; decide) (by rw [c_1]; rfl) (by decide) ?_
    refine lv_iload_n hx hb d_Alu_branches_44 rfl (lv_at hl 1 rfl) ?_
    refine lv_iload_n hx hb d_Alu_branches_45 rfl (lv_at hl 2 rfl) ?_
    refine lv_icmp_ne (tgt := 53) hx hb d_Alu_branches_46 (by decide) (fun c_2 => ?_) (fun c_2 => ?_)
    · refine lv_iconst (v := 0) hx hb d_Alu_branches_53 rfl ?_
      exact rz () hx hb hr hlocks rfl hP hD hS d_Alu_branches_54 ⟨by simp only [sp_Alu_branches, if_pos c_1, if_neg c_2], Or.inl rfl⟩
    · refine lv_iconst (v := 1) hx hb d_Alu_branches_49 rfl ?_
      refine lv_goto (tgt := 54) hx hb d_Alu_branches_50 (by decide) ?_
      exact rz () hx hb hr hlocks rfl hP hD hS d_Alu_branches_54 ⟨by simp only [sp_Alu_branches, if_pos c_1, if_pos c_2], Or.inr rfl⟩
  · by_cases c_3 : x0 = 1
    · refine lv_tableIn (off := 54) (tgt := 55) hx hb d_Alu_branches_1 (by rw [c_3]; decide) (by rw [c_3]; decide) (by rw [c_3]; rfl) (by decide) ?_
      refine lv_iload_n hx hb d_Alu_branches_55 rfl (lv_at hl 1 rfl) ?_
      refine lv_iload_n hx hb d_Alu_branches_56 rfl (lv_at hl 2 rfl) ?_
      refine lv_icmp_eq (tgt := 64) hx hb d_Alu_branches_57 (by decide) (fun c_4 => ?_) (fun c_4 => ?_)
      · refine lv_iconst (v := 0) hx hb d_Alu_branches_64 rfl ?_
        exact rz () hx hb hr hlocks rfl hP hD hS d_Alu_branches_65 ⟨by simp only [sp_Alu_branches, if_neg c_1, if_pos c_3, if_pos c_4], Or.inl rfl⟩
      · refine lv_iconst (v := 1) hx hb d_Alu_branches_60 rfl ?_
        refine lv_goto (tgt := 65) hx hb d_Alu_branches_61 (by decide) ?_
        exact rz () hx hb hr hlocks rfl hP hD hS d_Alu_branches_65 ⟨by simp only [sp_Alu_branches, if_neg c_1, if_pos c_3, if_neg c_4], Or.inr rfl⟩
    · by_cases c_5 : x0 = 2
      · refine lv_tableIn (off := 93) (tgt := 94) hx hb d_Alu_branches_1 (by rw [c_5]; decide) (by rw [c_5]; decide) (by rw [c_5]; rfl) (by decide) ?_
        refine lv_iload_n hx hb d_Alu_branches_94 rfl (lv_at hl 1 rfl) ?_
        refine lv_iload_n hx hb d_Alu_branches_95 rfl (lv_at hl 2 rfl) ?_
        refine xi (wr := []) (W2 := fun _ => []) (xS (rest := []) ⟨hx, hb, hml, hown, hts⟩ (c_Alu_below x1 x2) mw_Alu_below ms_Alu_below k_97 ⟨rfl, rfl, Nat.le_of_ble_eq_true rfl, Nat.le_of_ble_eq_true rfl⟩ hK hP hD hS hA hF [] [] rfl rfl rfl rfl hl.1 rfl (Nat.le_of_ble_eq_true rfl) d_Alu_branches_96 ⟨Nat.zero_le _, Nat.zero_le _⟩) hP hD hS hA [] [] [] rfl rfl rfl (by decide) (fun _ => rfl) rfl (fun r_6 _ H locs h_6 hP hD hS => ?_)
        obtain ⟨h_6, z_6⟩ := h_6
        subst h_6
        refine lv_if_ne (tgt := 106) hx hb d_Alu_branches_99 (by decide) (fun c_7 => ?_) (fun c_7 => ?_)
        · refine lv_iconst (v := 0) hx hb d_Alu_branches_106 rfl ?_
          exact rz () hx hb hr hlocks rfl hP hD hS d_Alu_branches_107 ⟨by simp only [sp_Alu_branches, if_neg c_1, if_neg c_3, if_pos c_5, if_neg c_7], Or.inl rfl⟩
        · refine lv_iconst (v := 1) hx hb d_Alu_branches_102 rfl ?_
          refine lv_goto (tgt := 107) hx hb d_Alu_branches_103 (by decide) ?_
          exact rz () hx hb hr hlocks rfl hP hD hS d_Alu_branches_107 ⟨by simp only [sp_Alu_branches, if_neg c_1, if_neg c_3, if_pos c_5, if_pos c_7], Or.inr rfl⟩
      · by_cases c_8 : x0 = 3
        · refine lv_tableIn (off := 93) (tgt := 94) hx hb d_Alu_branches_1 (by rw [c_8]; decide) (by rw [c_8]; decide) (by rw [c_8]; rfl) (by decide) ?_
          refine lv_iload_n hx hb d_Alu_branches_94 rfl (lv_at hl 1 rfl) ?_
          refine lv_iload_n hx hb d_Alu_branches_95 rfl (lv_at hl 2 rfl) ?_
          refine xi (wr := []) (W2 := fun _ => []) (xS (rest := []) ⟨hx, hb, hml, hown, hts⟩ (c_Alu_below x1 x2) mw_Alu_below ms_Alu_below k_97 ⟨rfl, rfl, Nat.le_of_ble_eq_true rfl, Nat.le_of_ble_eq_true rfl⟩ hK hP hD hS hA hF [] [] rfl rfl rfl rfl hl.1 rfl (Nat.le_of_ble_eq_true rfl) d_Alu_branches_96 ⟨Nat.zero_le _, Nat.zero_le _⟩) hP hD hS hA [] [] [] rfl rfl rfl (by decide) (fun _ => rfl) rfl (fun r_9 _ H locs h_9 hP hD hS => ?_)
          obtain ⟨h_9, z_9⟩ := h_9
          subst h_9
          refine lv_if_ne (tgt := 106) hx hb d_Alu_branches_99 (by decide) (fun c_10 => ?_) (fun c_10 => ?_)
          · refine lv_iconst (v := 0) hx hb d_Alu_branches_106 rfl ?_
            exact rz () hx hb hr hlocks rfl hP hD hS d_Alu_branches_107 ⟨by simp only [sp_Alu_branches, if_neg c_1, if_neg c_3, if_neg c_5, if_pos c_8, if_neg c_10], Or.inl rfl⟩
          · refine lv_iconst (v := 1) hx hb d_Alu_branches_102 rfl ?_
            refine lv_goto (tgt := 107) hx hb d_Alu_branches_103 (by decide) ?_
            exact rz () hx hb hr hlocks rfl hP hD hS d_Alu_branches_107 ⟨by simp only [sp_Alu_branches, if_neg c_1, if_neg c_3, if_neg c_5, if_pos c_8, if_pos c_10], Or.inr rfl⟩
        · by_cases c_11 : x0 = 4
          · refine lv_tableIn (off := 65) (tgt := 66) hx hb d_Alu_branches_1 (by rw [c_11]; decide) (by rw [c_11]; decide) (by rw [c_11]; rfl) (by decide) ?_
            refine lv_iload_n hx hb d_Alu_branches_66 rfl (lv_at hl 1 rfl) ?_
            refine lv_iload_n hx hb d_Alu_branches_67 rfl (lv_at hl 2 rfl) ?_
            refine lv_icmp_ge (tgt := 75) hx hb d_Alu_branches_68 (by decide) (fun c_12 => ?_) (fun c_12 => ?_)
            · refine lv_iconst (v := 0) hx hb d_Alu_branches_75 rfl ?_
              exact rz () hx hb hr hlocks rfl hP hD hS d_Alu_branches_76 ⟨by simp only [sp_Alu_branches, if_neg c_1, if_neg c_3, if_neg c_5, if_neg c_8, if_pos c_11, if_pos c_12], Or.inl rfl⟩
            · refine lv_iconst (v := 1) hx hb d_Alu_branches_71 rfl ?_
              refine lv_goto (tgt := 76) hx hb d_Alu_branches_72 (by decide) ?_
              exact rz () hx hb hr hlocks rfl hP hD hS d_Alu_branches_76 ⟨by simp only [sp_Alu_branches, if_neg c_1, if_neg c_3, if_neg c_5, if_neg c_8, if_pos c_11, if_neg c_12], Or.inr rfl⟩
          · by_cases c_13 : x0 = 5
            · refine lv_tableIn (off := 76) (tgt := 77) hx hb d_Alu_branches_1 (by rw [c_13]; decide) (by rw [c_13]; decide) (by rw [c_13]; rfl) (by decide) ?_
              refine lv_iload_n hx hb d_Alu_branches_77 rfl (lv_at hl 1 rfl) ?_
              refine lv_iload_n hx hb d_Alu_branches_78 rfl (lv_at hl 2 rfl) ?_
              refine lv_icmp_lt (tgt := 86) hx hb d_Alu_branches_79 (by decide) (fun c_14 => ?_) (fun c_14 => ?_)
              · refine lv_iconst (v := 0) hx hb d_Alu_branches_86 rfl ?_
                exact rz () hx hb hr hlocks rfl hP hD hS d_Alu_branches_87 ⟨by simp only [sp_Alu_branches, if_neg c_1, if_neg c_3, if_neg c_5, if_neg c_8, if_neg c_11, if_pos c_13, if_pos c_14], Or.inl rfl⟩
              · refine lv_iconst (v := 1) hx hb d_Alu_branches_82 rfl ?_
                refine lv_goto (tgt := 87) hx hb d_Alu_branches_83 (by decide) ?_
                exact rz () hx hb hr hlocks rfl hP hD hS d_Alu_branches_87 ⟨by simp only [sp_Alu_branches, if_neg c_1, if_neg c_3, if_neg c_5, if_neg c_8, if_neg c_11, if_pos c_13, if_neg c_14], Or.inr rfl⟩
            · by_cases c_15 : x0 = 6
              · refine lv_tableIn (off := 87) (tgt := 88) hx hb d_Alu_branches_1 (by rw [c_15]; decide) (by rw [c_15]; decide) (by rw [c_15]; rfl) (by decide) ?_
                refine lv_iload_n hx hb d_Alu_branches_88 rfl (lv_at hl 1 rfl) ?_
                refine lv_iload_n hx hb d_Alu_branches_89 rfl (lv_at hl 2 rfl) ?_
                refine xi (wr := []) (W2 := fun _ => []) (xS (rest := []) ⟨hx, hb, hml, hown, hts⟩ (c_Alu_below x1 x2) mw_Alu_below ms_Alu_below k_97 ⟨rfl, rfl, Nat.le_of_ble_eq_true rfl, Nat.le_of_ble_eq_true rfl⟩ hK hP hD hS hA hF [] [] rfl rfl rfl rfl hl.1 rfl (Nat.le_of_ble_eq_true rfl) d_Alu_branches_90 ⟨Nat.zero_le _, Nat.zero_le _⟩) hP hD hS hA [] [] [] rfl rfl rfl (by decide) (fun _ => rfl) rfl (fun r_16 _ H locs h_16 hP hD hS => ?_)
                obtain ⟨h_16, z_16⟩ := h_16
                subst h_16
                exact rz () hx hb hr hlocks (nz z_16) hP hD hS d_Alu_branches_93 ⟨by simp only [sp_Alu_branches, if_neg c_1, if_neg c_3, if_neg c_5, if_neg c_8, if_neg c_11, if_neg c_13, if_pos c_15], z_16⟩
              · refine lv_tableOut (tgt := 94) hx hb d_Alu_branches_1 (by have := lv_neT (a := 0) c_1 rfl; have := lv_neT (a := 1) c_3 rfl; have := lv_neT (a := 2) c_5 rfl; have := lv_neT (a := 3) c_8 rfl; have := lv_neT (a := 4) c_11 rfl; have := lv_neT (a := 5) c_13 rfl; have := lv_neT (a := 6) c_15 rfl; omega) (by decide) ?_
                refine lv_iload_n hx hb d_Alu_branches_94 rfl (lv_at hl 1 rfl) ?_
                refine lv_iload_n hx hb d_Alu_branches_95 rfl (lv_at hl 2 rfl) ?_
                refine xi (wr := []) (W2 := fun _ => []) (xS (rest := []) ⟨hx, hb, hml, hown, hts⟩ (c_Alu_below x1 x2) mw_Alu_below ms_Alu_below k_97 ⟨rfl, rfl, Nat.le_of_ble_eq_true rfl, Nat.le_of_ble_eq_true rfl⟩ hK hP hD hS hA hF [] [] rfl rfl rfl rfl hl.1 rfl (Nat.le_of_ble_eq_true rfl) d_Alu_branches_96 ⟨Nat.zero_le _, Nat.zero_le _⟩) hP hD hS hA [] [] [] rfl rfl rfl (by decide) (fun _ => rfl) rfl (fun r_17 _ H locs h_17 hP hD hS => ?_)
                obtain ⟨h_17, z_17⟩ := h_17
                subst h_17
                refine lv_if_ne (tgt := 106) hx hb d_Alu_branches_99 (by decide) (fun c_18 => ?_) (fun c_18 => ?_)
                · refine lv_iconst (v := 0) hx hb d_Alu_branches_106 rfl ?_
                  exact rz () hx hb hr hlocks rfl hP hD hS d_Alu_branches_107 ⟨by simp only [sp_Alu_branches, if_neg c_1, if_neg c_3, if_neg c_5, if_neg c_8, if_neg c_11, if_neg c_13, if_neg c_15, if_neg c_18], Or.inl rfl⟩
                · refine lv_iconst (v := 1) hx hb d_Alu_branches_102 rfl ?_
                  refine lv_goto (tgt := 107) hx hb d_Alu_branches_103 (by decide) ?_
                  exact rz () hx hb hr hlocks rfl hP hD hS d_Alu_branches_107 ⟨by simp only [sp_Alu_branches, if_neg c_1, if_neg c_3, if_neg c_5, if_neg c_8, if_neg c_11, if_neg c_13, if_neg c_15, if_pos c_18], Or.inr rfl⟩
def sp_Field_branchOffset (x0 : Int32)  : Int32 :=
  (((shl (shr x0 31) 12) ||| (shl ((ush x0 25) &&& 63) 5)) ||| (shl ((ush x0 8) &&& 15) 1)) ||| (shl ((ush x0 7) &&& 1) 11)
set_option maxHeartbeats 4000000 in
set_option maxRecDepth 100000 in
theorem c_Field_branchOffset {l : Launch} {D : va_G} {g : Nat → Nat}  (x0 : Int32)   : CT l D g y_Field_branchOffset b_Field_branchOffset 1 (some .int) (rD 0) [.int x0] ([]) ([]) (Qi D (fun (r : Int32) (_ : Unit) => sp_Field_branchOffset x0 = r) (fun _ => [])) := by
  refine CT.of rfl (Nat.le_of_ble_eq_true rfl) (fun p e s m below meth c A ls hx hb hr hml hts hown hlocks hA hP hK hD hF hS hl => ?_)
  have hl : lv_has ls 1 [(0, .int x0)] := hl
  refine lv_iload_n hx hb d_Field_branchOffset_0 rfl (lv_at hl 0 rfl) ?_
  refine lv_bipush (v := 31) hx hb d_Field_branchOffset_1 rfl ?_
  refine y_ishr hx hb d_Field_branchOffset_3 ?_
  refine lv_bipush (v := 12) hx hb d_Field_branchOffset_4 rfl ?_
  refine y_ishl hx hb d_Field_branchOffset_6 ?_
  refine lv_iload_n hx hb d_Field_branchOffset_7 rfl (lv_at hl 0 rfl) ?_
  refine lv_bipush (v := 25) hx hb d_Field_branchOffset_8 rfl ?_
  refine lv_iushr (v := ush x0 25) hx hb d_Field_branchOffset_10 rfl ?_
  refine lv_bipush (v := 63) hx hb d_Field_branchOffset_11 rfl ?_
  refine lv_iand hx hb d_Field_branchOffset_13 ?_
  refine lv_iconst (v := 5) hx hb d_Field_branchOffset_14 rfl ?_
  refine y_ishl hx hb d_Field_branchOffset_15 ?_
  refine lv_ior hx hb d_Field_branchOffset_16 ?_
  refine lv_iload_n hx hb d_Field_branchOffset_17 rfl (lv_at hl 0 rfl) ?_
  refine lv_bipush (v := 8) hx hb d_Field_branchOffset_18 rfl ?_
  refine lv_iushr (v := ush x0 8) hx hb d_Field_branchOffset_20 rfl ?_
  refine lv_bipush (v := 15) hx hb d_Field_branchOffset_21 rfl ?_
  refine lv_iand hx hb d_Field_branchOffset_23 ?_
  refine lv_iconst (v := 1) hx hb d_Field_branchOffset_24 rfl ?_
  refine y_ishl hx hb d_Field_branchOffset_25 ?_
  refine lv_ior hx hb d_Field_branchOffset_26 ?_
  refine lv_iload_n hx hb d_Field_branchOffset_27 rfl (lv_at hl 0 rfl) ?_
  refine lv_bipush (v := 7) hx hb d_Field_branchOffset_28 rfl ?_
  refine lv_iushr (v := ush x0 7) hx hb d_Field_branchOffset_30 rfl ?_
  refine lv_iconst (v := 1) hx hb d_Field_branchOffset_31 rfl ?_
  refine lv_iand hx hb d_Field_branchOffset_32 ?_
  refine lv_bipush (v := 11) hx hb d_Field_branchOffset_33 rfl ?_
  refine y_ishl hx hb d_Field_branchOffset_35 ?_
  refine lv_ior hx hb d_Field_branchOffset_36 ?_
  exact ri () hx hb hr hlocks hP hD hS d_Field_branchOffset_37 (by simp only [sp_Field_branchOffset])
def sp_Field_jumpOffset (x0 : Int32)  : Int32 :=
  (((shl (shr x0 31) 20) ||| (shl ((ush x0 21) &&& 1023) 1)) ||| (shl ((ush x0 20) &&& 1) 11)) ||| (x0 &&& 1044480)
set_option maxHeartbeats 4000000 in
set_option maxRecDepth 100000 in
theorem c_Field_jumpOffset {l : Launch} {D : va_G} {g : Nat → Nat}  (x0 : Int32)   : CT l D g y_Field_jumpOffset b_Field_jumpOffset 1 (some .int) (rD 0) [.int x0] ([]) ([]) (Qi D (fun (r : Int32) (_ : Unit) => sp_Field_jumpOffset x0 = r) (fun _ => [])) := by
  refine CT.of rfl (Nat.le_of_ble_eq_true rfl) (fun p e s m below meth c A ls hx hb hr hml hts hown hlocks hA hP hK hD hF hS hl => ?_)
  have hl : lv_has ls 1 [(0, .int x0)] := hl
  refine lv_iload_n hx hb d_Field_jumpOffset_0 rfl (lv_at hl 0 rfl) ?_
  refine lv_bipush (v := 31) hx hb d_Field_jumpOffset_1 rfl ?_
  refine y_ishr hx hb d_Field_jumpOffset_3 ?_
  refine lv_bipush (v := 20) hx hb d_Field_jumpOffset_4 rfl ?_
  refine y_ishl hx hb d_Field_jumpOffset_6 ?_
  refine lv_iload_n hx hb d_Field_jumpOffset_7 rfl (lv_at hl 0 rfl) ?_
  refine lv_bipush (v := 21) hx hb d_Field_jumpOffset_8 rfl ?_
  refine lv_iushr (v := ush x0 21) hx hb d_Field_jumpOffset_10 rfl ?_
  refine lv_sipush (v := 1023) hx hb d_Field_jumpOffset_11 rfl ?_
  refine lv_iand hx hb d_Field_jumpOffset_14 ?_
  refine lv_iconst (v := 1) hx hb d_Field_jumpOffset_15 rfl ?_
  refine y_ishl hx hb d_Field_jumpOffset_16 ?_
  refine lv_ior hx hb d_Field_jumpOffset_17 ?_
  refine lv_iload_n hx hb d_Field_jumpOffset_18 rfl (lv_at hl 0 rfl) ?_
  refine lv_bipush (v := 20) hx hb d_Field_jumpOffset_19 rfl ?_
  refine lv_iushr (v := ush x0 20) hx hb d_Field_jumpOffset_21 rfl ?_
  refine lv_iconst (v := 1) hx hb d_Field_jumpOffset_22 rfl ?_
  refine lv_iand hx hb d_Field_jumpOffset_23 ?_
  refine lv_bipush (v := 11) hx hb d_Field_jumpOffset_24 rfl ?_
  refine y_ishl hx hb d_Field_jumpOffset_26 ?_
  refine lv_ior hx hb d_Field_jumpOffset_27 ?_
  refine lv_iload_n hx hb d_Field_jumpOffset_28 rfl (lv_at hl 0 rfl) ?_
  refine lv_ldc (v := 1044480) hx hb hown (hts _ k_131) d_Field_jumpOffset_29 ?_
  refine lv_iand hx hb d_Field_jumpOffset_31 ?_
  refine lv_ior hx hb d_Field_jumpOffset_32 ?_
  exact ri () hx hb hr hlocks hP hD hS d_Field_jumpOffset_33 (by simp only [sp_Field_jumpOffset])
end
section
def sp_Csrs_restart  (q : Nat → Int32) : Nat → Int32 :=
  (upd (upd (upd (upd (upd (upd (upd (upd (upd (upd (upd (upd (upd (upd (upd (upd q 1 0) 2 0) 3 0) 4 0) 5 0) 6 0) 7 0) 8 0) 9 0) 10 0) 11 0) 12 0) 13 0) 14 0) 15 0) 16 0)
set_option maxHeartbeats 4000000 in
set_option maxRecDepth 100000 in
theorem c_Csrs_restart {l : Launch} {D : va_G} {g : Nat → Nat} (h : Nat)  (q : Nat → Int32)  : CT l D g y_Csrs_restart b_Csrs_restart 1 none (rD 0) [.ref h] (wC h q) ([]) (Qv D (fun (u : Nat → Int32) => sp_Csrs_restart q = u) (fun u => wC h u)) := by
  refine CT.of rfl (Nat.le_of_ble_eq_true rfl) (fun p e s m below meth c A ls hx hb hr hml hts hown hlocks hA hP hK hD hF hS hl => ?_)
  have hl : lv_has ls 1 [(0, .ref h)] := hl
  refine lv_aload_n hx hb d_Csrs_restart_0 rfl (lv_at hl 0 rfl) ?_
  refine lv_iconst (v := 0) hx hb d_Csrs_restart_1 rfl ?_
  refine y_put (D := D) (ci := 3) (v := .int 0) (ty := .int) (C := R_Csrs) (T := F_Csrs) (N := 17) (ws' := wC h (upd q 1 0)) hx hb hts i_Csrs t_Csrs t_Csrs_ok n_Csrs hown hK hP hD hS 0 rfl rfl 1 (by decide) (hts _ k_6) (fun _ h9 => h9) rfl (by decide +kernel) rfl rfl (Nat.le_of_ble_eq_true rfl) d_Csrs_restart_2 rfl (fun H locs hP hD hS => ?_)
  refine lv_aload_n hx hb d_Csrs_restart_5 rfl (lv_at hl 0 rfl) ?_
  refine lv_iconst (v := 0) hx hb d_Csrs_restart_6 rfl ?_
  refine y_put (D := D) (ci := 3) (v := .int 0) (ty := .int) (C := R_Csrs) (T := F_Csrs) (N := 17) (ws' := wC h (upd (upd q 1 0) 2 0)) hx hb hts i_Csrs t_Csrs t_Csrs_ok n_Csrs hown hK hP hD hS 0 rfl rfl 2 (by decide) (hts _ k_7) (fun _ h9 => h9) rfl (by decide +kernel) rfl rfl (Nat.le_of_ble_eq_true rfl) d_Csrs_restart_7 rfl (fun H locs hP hD hS => ?_)
  refine lv_aload_n hx hb d_Csrs_restart_10 rfl (lv_at hl 0 rfl) ?_
  refine lv_iconst (v := 0) hx hb d_Csrs_restart_11 rfl ?_
  refine y_put (D := D) (ci := 3) (v := .int 0) (ty := .int) (C := R_Csrs) (T := F_Csrs) (N := 17) (ws' := wC h (upd (upd (upd q 1 0) 2 0) 3 0)) hx hb hts i_Csrs t_Csrs t_Csrs_ok n_Csrs hown hK hP hD hS 0 rfl rfl 3 (by decide) (hts _ k_8) (fun _ h9 => h9) rfl (by decide +kernel) rfl rfl (Nat.le_of_ble_eq_true rfl) d_Csrs_restart_12 rfl (fun H locs hP hD hS => ?_)
  refine lv_aload_n hx hb d_Csrs_restart_15 rfl (lv_at hl 0 rfl) ?_
  refine lv_iconst (v := 0) hx hb d_Csrs_restart_16 rfl ?_
  refine y_put (D := D) (ci := 3) (v := .int 0) (ty := .int) (C := R_Csrs) (T := F_Csrs) (N := 17) (ws' := wC h (upd (upd (upd (upd q 1 0) 2 0) 3 0) 4 0)) hx hb hts i_Csrs t_Csrs t_Csrs_ok n_Csrs hown hK hP hD hS 0 rfl rfl 4 (by decide) (hts _ k_9) (fun _ h9 => h9) rfl (by decide +kernel) rfl rfl (Nat.le_of_ble_eq_true rfl) d_Csrs_restart_17 rfl (fun H locs hP hD hS => ?_)
  refine lv_aload_n hx hb d_Csrs_restart_20 rfl (lv_at hl 0 rfl) ?_
  refine lv_iconst (v := 0) hx hb d_Csrs_restart_21 rfl ?_
  refine y_put (D := D) (ci := 3) (v := .int 0) (ty := .int) (C := R_Csrs) (T := F_Csrs) (N := 17) (ws' := wC h (upd (upd (upd (upd (upd q 1 0) 2 0) 3 0) 4 0) 5 0)) hx hb hts i_Csrs t_Csrs t_Csrs_ok n_Csrs hown hK hP hD hS 0 rfl rfl 5 (by decide) (hts _ k_10) (fun _ h9 => h9) rfl (by decide +kernel) rfl rfl (Nat.le_of_ble_eq_true rfl) d_Csrs_restart_22 rfl (fun H locs hP hD hS => ?_)
  refine lv_aload_n hx hb d_Csrs_restart_25 rfl (lv_at hl 0 rfl) ?_
  refine lv_iconst (v := 0) hx hb d_Csrs_restart_26 rfl ?_
  refine y_put (D := D) (ci := 3) (v := .int 0) (ty := .int) (C := R_Csrs) (T := F_Csrs) (N := 17) (ws' := wC h (upd (upd (upd (upd (upd (upd q 1 0) 2 0) 3 0) 4 0) 5 0) 6 0)) hx hb hts i_Csrs t_Csrs t_Csrs_ok n_Csrs hown hK hP hD hS 0 rfl rfl 6 (by decide) (hts _ k_11) (fun _ h9 => h9) rfl (by decide +kernel) rfl rfl (Nat.le_of_ble_eq_true rfl) d_Csrs_restart_27 rfl (fun H locs hP hD hS => ?_)
  refine lv_aload_n hx hb d_Csrs_restart_30 rfl (lv_at hl 0 rfl) ?_
  refine lv_iconst (v := 0) hx hb d_Csrs_restart_31 rfl ?_
  refine y_put (D := D) (ci := 3) (v := .int 0) (ty := .int) (C := R_Csrs) (T := F_Csrs) (N := 17) (ws' := wC h (upd (upd (upd (upd (upd (upd (upd q 1 0) 2 0) 3 0) 4 0) 5 0) 6 0) 7 0)) hx hb hts i_Csrs t_Csrs t_Csrs_ok n_Csrs hown hK hP hD hS 0 rfl rfl 7 (by decide) (hts _ k_12) (fun _ h9 => h9) rfl (by decide +kernel) rfl rfl (Nat.le_of_ble_eq_true rfl) d_Csrs_restart_32 rfl (fun H locs hP hD hS => ?_)
  refine lv_aload_n hx hb d_Csrs_restart_35 rfl (lv_at hl 0 rfl) ?_
  refine lv_iconst (v := 0) hx hb d_Csrs_restart_36 rfl ?_
  refine y_put (D := D) (ci := 3) (v := .int 0) (ty := .int) (C := R_Csrs) (T := F_Csrs) (N := 17) (ws' := wC h (upd (upd (upd (upd (upd (upd (upd (upd q 1 0) 2 0) 3 0) 4 0) 5 0) 6 0) 7 0) 8 0)) hx hb hts i_Csrs t_Csrs t_Csrs_ok n_Csrs hown hK hP hD hS 0 rfl rfl 8 (by decide) (hts _ k_13) (fun _ h9 => h9) rfl (by decide +kernel) rfl rfl (Nat.le_of_ble_eq_true rfl) d_Csrs_restart_37 rfl (fun H locs hP hD hS => ?_)
  refine lv_aload_n hx hb d_Csrs_restart_40 rfl (lv_at hl 0 rfl) ?_
  refine lv_iconst (v := 0) hx hb d_Csrs_restart_41 rfl ?_
  refine y_put (D := D) (ci := 3) (v := .int 0) (ty := .int) (C := R_Csrs) (T := F_Csrs) (N := 17) (ws' := wC h (upd (upd (upd (upd (upd (upd (upd (upd (upd q 1 0) 2 0) 3 0) 4 0) 5 0) 6 0) 7 0) 8 0) 9 0)) hx hb hts i_Csrs t_Csrs t_Csrs_ok n_Csrs hown hK hP hD hS 0 rfl rfl 9 (by decide) (hts _ k_14) (fun _ h9 => h9) rfl (by decide +kernel) rfl rfl (Nat.le_of_ble_eq_true rfl) d_Csrs_restart_42 rfl (fun H locs hP hD hS => ?_)
  refine lv_aload_n hx hb d_Csrs_restart_45 rfl (lv_at hl 0 rfl) ?_
  refine lv_iconst (v := 0) hx hb d_Csrs_restart_46 rfl ?_
  refine y_put (D := D) (ci := 3) (v := .int 0) (ty := .int) (C := R_Csrs) (T := F_Csrs) (N := 17) (ws' := wC h (upd (upd (upd (upd (upd (upd (upd (upd (upd (upd q 1 0) 2 0) 3 0) 4 0) 5 0) 6 0) 7 0) 8 0) 9 0) 10 0)) hx hb hts i_Csrs t_Csrs t_Csrs_ok n_Csrs hown hK hP hD hS 0 rfl rfl 10 (by decide) (hts _ k_15) (fun _ h9 => h9) rfl (by decide +kernel) rfl rfl (Nat.le_of_ble_eq_true rfl) d_Csrs_restart_47 rfl (fun H locs hP hD hS => ?_)
  refine lv_aload_n hx hb d_Csrs_restart_50 rfl (lv_at hl 0 rfl) ?_
  refine lv_iconst (v := 0) hx hb d_Csrs_restart_51 rfl ?_
  refine y_put (D := D) (ci := 3) (v := .int 0) (ty := .int) (C := R_Csrs) (T := F_Csrs) (N := 17) (ws' := wC h (upd (upd (upd (upd (upd (upd (upd (upd (upd (upd (upd q 1 0) 2 0) 3 0) 4 0) 5 0) 6 0) 7 0) 8 0) 9 0) 10 0) 11 0)) hx hb hts i_Csrs t_Csrs t_Csrs_ok n_Csrs hown hK hP hD hS 0 rfl rfl 11 (by decide) (hts _ k_16) (fun _ h9 => h9) rfl (by decide +kernel) rfl rfl (Nat.le_of_ble_eq_true rfl) d_Csrs_restart_52 rfl (fun H locs hP hD hS => ?_)
  refine lv_aload_n hx hb d_Csrs_restart_55 rfl (lv_at hl 0 rfl) ?_
  refine lv_iconst (v := 0) hx hb d_Csrs_restart_56 rfl ?_
  refine y_put (D := D) (ci := 3) (v := .int 0) (ty := .int) (C := R_Csrs) (T := F_Csrs) (N := 17) (ws' := wC h (upd (upd (upd (upd (upd (upd (upd (upd (upd (upd (upd (upd q 1 0) 2 0) 3 0) 4 0) 5 0) 6 0) 7 0) 8 0) 9 0) 10 0) 11 0) 12 0)) hx hb hts i_Csrs t_Csrs t_Csrs_ok n_Csrs hown hK hP hD hS 0 rfl rfl 12 (by decide) (hts _ k_17) (fun _ h9 => h9) rfl (by decide +kernel) rfl rfl (Nat.le_of_ble_eq_true rfl) d_Csrs_restart_57 rfl (fun H locs hP hD hS => ?_)
  refine lv_aload_n hx hb d_Csrs_restart_60 rfl (lv_at hl 0 rfl) ?_
  refine lv_iconst (v := 0) hx hb d_Csrs_restart_61 rfl ?_
  refine y_put (D := D) (ci := 3) (v := .int 0) (ty := .int) (C := R_Csrs) (T := F_Csrs) (N := 17) (ws' := wC h (upd (upd (upd (upd (upd (upd (upd (upd (upd (upd (upd (upd (upd q 1 0) 2 0) 3 0) 4 0) 5 0) 6 0) 7 0) 8 0) 9 0) 10 0) 11 0) 12 0) 13 0)) hx hb hts i_Csrs t_Csrs t_Csrs_ok n_Csrs hown hK hP hD hS 0 rfl rfl 13 (by decide) (hts _ k_18) (fun _ h9 => h9) rfl (by decide +kernel) rfl rfl (Nat.le_of_ble_eq_true rfl) d_Csrs_restart_62 rfl (fun H locs hP hD hS => ?_)
  refine lv_aload_n hx hb d_Csrs_restart_65 rfl (lv_at hl 0 rfl) ?_
  refine lv_iconst (v := 0) hx hb d_Csrs_restart_66 rfl ?_
  refine y_put (D := D) (ci := 3) (v := .int 0) (ty := .int) (C := R_Csrs) (T := F_Csrs) (N := 17) (ws' := wC h (upd (upd (upd (upd (upd (upd (upd (upd (upd (upd (upd (upd (upd (upd q 1 0) 2 0) 3 0) 4 0) 5 0) 6 0) 7 0) 8 0) 9 0) 10 0) 11 0) 12 0) 13 0) 14 0)) hx hb hts i_Csrs t_Csrs t_Csrs_ok n_Csrs hown hK hP hD hS 0 rfl rfl 14 (by decide) (hts _ k_19) (fun _ h9 => h9) rfl (by decide +kernel) rfl rfl (Nat.le_of_ble_eq_true rfl) d_Csrs_restart_67 rfl (fun H locs hP hD hS => ?_)
  refine lv_aload_n hx hb d_Csrs_restart_70 rfl (lv_at hl 0 rfl) ?_
  refine lv_iconst (v := 0) hx hb d_Csrs_restart_71 rfl ?_
  refine y_put (D := D) (ci := 3) (v := .int 0) (ty := .int) (C := R_Csrs) (T := F_Csrs) (N := 17) (ws' := wC h (upd (upd (upd (upd (upd (upd (upd (upd (upd (upd (upd (upd (upd (upd (upd q 1 0) 2 0) 3 0) 4 0) 5 0) 6 0) 7 0) 8 0) 9 0) 10 0) 11 0) 12 0) 13 0) 14 0) 15 0)) hx hb hts i_Csrs t_Csrs t_Csrs_ok n_Csrs hown hK hP hD hS 0 rfl rfl 15 (by decide) (hts _ k_20) (fun _ h9 => h9) rfl (by decide +kernel) rfl rfl (Nat.le_of_ble_eq_true rfl) d_Csrs_restart_72 rfl (fun H locs hP hD hS => ?_)
  refine lv_aload_n hx hb d_Csrs_restart_75 rfl (lv_at hl 0 rfl) ?_
  refine lv_iconst (v := 0) hx hb d_Csrs_restart_76 rfl ?_
  refine y_put (D := D) (ci := 3) (v := .int 0) (ty := .int) (C := R_Csrs) (T := F_Csrs) (N := 17) (ws' := wC h (upd (upd (upd (upd (upd (upd (upd (upd (upd (upd (upd (upd (upd (upd (upd (upd q 1 0) 2 0) 3 0) 4 0) 5 0) 6 0) 7 0) 8 0) 9 0) 10 0) 11 0) 12 0) 13 0) 14 0) 15 0) 16 0)) hx hb hts i_Csrs t_Csrs t_Csrs_ok n_Csrs hown hK hP hD hS 0 rfl rfl 16 (by decide) (hts _ k_21) (fun _ h9 => h9) rfl (by decide +kernel) rfl rfl (Nat.le_of_ble_eq_true rfl) d_Csrs_restart_77 rfl (fun H locs hP hD hS => ?_)
  exact rv (upd (upd (upd (upd (upd (upd (upd (upd (upd (upd (upd (upd (upd (upd (upd (upd q 1 0) 2 0) 3 0) 4 0) 5 0) 6 0) 7 0) 8 0) 9 0) 10 0) 11 0) 12 0) 13 0) 14 0) 15 0) 16 0) hx hb hr hlocks hP hD hS d_Csrs_restart_80 (by simp only [sp_Csrs_restart])
def sp_Csrs_has (x0 : Int32) (q : Nat → Int32) : Int32 :=
  if ((q 1) &&& x0) = 0 then
    0
  else
    1
set_option maxHeartbeats 4000000 in
set_option maxRecDepth 100000 in
theorem c_Csrs_has {l : Launch} {D : va_G} {g : Nat → Nat} (h : Nat) (x0 : Int32) (q : Nat → Int32)  : CT l D g y_Csrs_has b_Csrs_has 2 (some .boolean) (rD 0) [.ref h, .int x0] (wC h q) ([]) (Qi D (fun (r : Int32) (_ : Unit) => sp_Csrs_has x0 q = r ∧ (r = 0 ∨ r = 1)) (fun _ => wC h q)) := by
  refine CT.of rfl (Nat.le_of_ble_eq_true rfl) (fun p e s m below meth c A ls hx hb hr hml hts hown hlocks hA hP hK hD hF hS hl => ?_)
  have hl : lv_has ls 2 [(0, .ref h), (1, .int x0)] := hl
  refine lv_aload_n hx hb d_Csrs_has_0 rfl (lv_at hl 0 rfl) ?_
  refine va_get (D := D) (ci := 3) (v := .int (q 1)) (C := R_Csrs) (T := F_Csrs) (N := 17) hx hb hts i_Csrs hown hK hP 0 rfl rfl 1 (by decide) (hts _ k_6) (fun _ h9 => h9) rfl d_Csrs_has_1 ?_
  refine lv_iload_n hx hb d_Csrs_has_4 rfl (lv_at hl 1 rfl) ?_
  refine lv_iand hx hb d_Csrs_has_5 ?_
  refine lv_if_eq (tgt := 13) hx hb d_Csrs_has_6 (by decide) (fun c_1 => ?_) (fun c_1 => ?_)
  · refine lv_iconst (v := 0) hx hb d_Csrs_has_13 rfl ?_
    exact rz () hx hb hr hlocks rfl hP hD hS d_Csrs_has_14 ⟨by simp only [sp_Csrs_has, if_pos c_1], Or.inl rfl⟩
  · refine lv_iconst (v := 1) hx hb d_Csrs_has_9 rfl ?_
    refine lv_goto (tgt := 14) hx hb d_Csrs_has_10 (by decide) ?_
    exact rz () hx hb hr hlocks rfl hP hD hS d_Csrs_has_14 ⟨by simp only [sp_Csrs_has, if_neg c_1], Or.inr rfl⟩
def sp_Csrs_firstOf (x0 : Int32)  : Int32 :=
  if ((shr x0 3) &&& 1) = 0 then
    if ((shr x0 7) &&& 1) = 0 then
      if ((shr x0 9) &&& 1) = 0 then
        if ((shr x0 1) &&& 1) = 0 then
          if ((shr x0 5) &&& 1) = 0 then
            (-1)
          else
            5
        else
          1
      else
        9
    else
      7
  else
    3
set_option maxHeartbeats 4000000 in
set_option maxRecDepth 100000 in
theorem c_Csrs_firstOf {l : Launch} {D : va_G} {g : Nat → Nat}  (x0 : Int32)   : CT l D g y_Csrs_firstOf b_Csrs_firstOf 2 (some .int) (rD 0) [.int x0] ([]) ([]) (Qi D (fun (r : Int32) (_ : Unit) => sp_Csrs_firstOf x0 = r) (fun _ => [])) := by
  refine CT.of rfl (Nat.le_of_ble_eq_true rfl) (fun p e s m below meth c A ls hx hb hr hml hts hown hlocks hA hP hK hD hF hS hl => ?_)
  have hl : lv_has ls 2 [(0, .int x0)] := hl
  refine lv_iconst (v := 0) hx hb d_Csrs_firstOf_0 rfl ?_
  refine lv_istore_n (lv' := [(1, .int 0), (0, .int x0)]) hx hb d_Csrs_firstOf_1 rfl hl (by decide) rfl (fun ls hl => ?_)
  refine lv_iload_n hx hb d_Csrs_firstOf_2 rfl (lv_at hl 0 rfl) ?_
  refine va_gets hx hb hF.2.2.1 hS hown (hts _ k_32) (fun _ h9 => h9) d_Csrs_firstOf_3 ?_
  refine va_tlen (v := 5) hx hb hF.2.2.2 hS rfl d_Csrs_firstOf_6 ?_
  refine lv_icmp_ge (tgt := 34) hx hb d_Csrs_firstOf_7 (by decide) (fun h9 => absurd h9 (by decide)) (fun _ => ?_)
  refine lv_iload_n hx hb d_Csrs_firstOf_10 rfl (lv_at hl 1 rfl) ?_
  refine va_gets hx hb hF.2.2.1 hS hown (hts _ k_32) (fun _ h9 => h9) d_Csrs_firstOf_11 ?_
  refine lv_iload_n hx hb d_Csrs_firstOf_14 rfl (lv_at hl 0 rfl) ?_
  refine va_ti (v := .int 3) hx hb hF.2.2.2 hS (by unfold vp_in; decide) rfl d_Csrs_firstOf_15 ?_
  refine y_ishr hx hb d_Csrs_firstOf_16 ?_
  refine lv_iconst (v := 1) hx hb d_Csrs_firstOf_17 rfl ?_
  refine lv_iand hx hb d_Csrs_firstOf_18 ?_
  refine lv_if_eq (tgt := 28) hx hb d_Csrs_firstOf_19 (by decide) (fun c_2 => ?_) (fun c_2 => ?_)
  · refine lv_iinc (v := 1) (lv' := [(1, .int 1), (0, .int x0)]) hx hb d_Csrs_firstOf_28 hl (k := 0) rfl rfl (by decide) rfl (fun ls hl => ?_)
    refine lv_goto (tgt := 2) hx hb d_Csrs_firstOf_31 (by decide) ?_
    refine lv_iload_n hx hb d_Csrs_firstOf_2 rfl (lv_at hl 0 rfl) ?_
    refine va_gets hx hb hF.2.2.1 hS hown (hts _ k_32) (fun _ h9 => h9) d_Csrs_firstOf_3 ?_
    refine va_tlen (v := 5) hx hb hF.2.2.2 hS rfl d_Csrs_firstOf_6 ?_
    refine lv_icmp_ge (tgt := 34) hx hb d_Csrs_firstOf_7 (by decide) (fun h9 => absurd h9 (by decide)) (fun _ => ?_)
    refine lv_iload_n hx hb d_Csrs_firstOf_10 rfl (lv_at hl 1 rfl) ?_
    refine va_gets hx hb hF.2.2.1 hS hown (hts _ k_32) (fun _ h9 => h9) d_Csrs_firstOf_11 ?_
    refine lv_iload_n hx hb d_Csrs_firstOf_14 rfl (lv_at hl 0 rfl) ?_
    refine va_ti (v := .int 7) hx hb hF.2.2.2 hS (by unfold vp_in; decide) rfl d_Csrs_firstOf_15 ?_
    refine y_ishr hx hb d_Csrs_firstOf_16 ?_
    refine lv_iconst (v := 1) hx hb d_Csrs_firstOf_17 rfl ?_
    refine lv_iand hx hb d_Csrs_firstOf_18 ?_
    refine lv_if_eq (tgt := 28) hx hb d_Csrs_firstOf_19 (by decide) (fun c_4 => ?_) (fun c_4 => ?_)
    · refine lv_iinc (v := 2) (lv' := [(1, .int 2), (0, .int x0)]) hx hb d_Csrs_firstOf_28 hl (k := 0) rfl rfl (by decide) rfl (fun ls hl => ?_)
      refine lv_goto (tgt := 2) hx hb d_Csrs_firstOf_31 (by decide) ?_
      refine lv_iload_n hx hb d_Csrs_firstOf_2 rfl (lv_at hl 0 rfl) ?_
      refine va_gets hx hb hF.2.2.1 hS hown (hts _ k_32) (fun _ h9 => h9) d_Csrs_firstOf_3 ?_
      refine va_tlen (v := 5) hx hb hF.2.2.2 hS rfl d_Csrs_firstOf_6 ?_
      refine lv_icmp_ge (tgt := 34) hx hb d_Csrs_firstOf_7 (by decide) (fun h9 => absurd h9 (by decide)) (fun _ => ?_)
      refine lv_iload_n hx hb d_Csrs_firstOf_10 rfl (lv_at hl 1 rfl) ?_
      refine va_gets hx hb hF.2.2.1 hS hown (hts _ k_32) (fun _ h9 => h9) d_Csrs_firstOf_11 ?_
      refine lv_iload_n hx hb d_Csrs_firstOf_14 rfl (lv_at hl 0 rfl) ?_
      refine va_ti (v := .int 9) hx hb hF.2.2.2 hS (by unfold vp_in; decide) rfl d_Csrs_firstOf_15 ?_
      refine y_ishr hx hb d_Csrs_firstOf_16 ?_
      refine lv_iconst (v := 1) hx hb d_Csrs_firstOf_17 rfl ?_
      refine lv_iand hx hb d_Csrs_firstOf_18 ?_
      refine lv_if_eq (tgt := 28) hx hb d_Csrs_firstOf_19 (by decide) (fun c_6 => ?_) (fun c_6 => ?_)
      · refine lv_iinc (v := 3) (lv' := [(1, .int 3), (0, .int x0)]) hx hb d_Csrs_firstOf_28 hl (k := 0) rfl rfl (by decide) rfl (fun ls hl => ?_)
        refine lv_goto (tgt := 2) hx hb d_Csrs_firstOf_31 (by decide) ?_
        refine lv_iload_n hx hb d_Csrs_firstOf_2 rfl (lv_at hl 0 rfl) ?_
        refine va_gets hx hb hF.2.2.1 hS hown (hts _ k_32) (fun _ h9 => h9) d_Csrs_firstOf_3 ?_
        refine va_tlen (v := 5) hx hb hF.2.2.2 hS rfl d_Csrs_firstOf_6 ?_
        refine lv_icmp_ge (tgt := 34) hx hb d_Csrs_firstOf_7 (by decide) (fun h9 => absurd h9 (by decide)) (fun _ => ?_)
        refine lv_iload_n hx hb d_Csrs_firstOf_10 rfl (lv_at hl 1 rfl) ?_
        refine va_gets hx hb hF.2.2.1 hS hown (hts _ k_32) (fun _ h9 => h9) d_Csrs_firstOf_11 ?_
        refine lv_iload_n hx hb d_Csrs_firstOf_14 rfl (lv_at hl 0 rfl) ?_
        refine va_ti (v := .int 1) hx hb hF.2.2.2 hS (by unfold vp_in; decide) rfl d_Csrs_firstOf_15 ?_
        refine y_ishr hx hb d_Csrs_firstOf_16 ?_
        refine lv_iconst (v := 1) hx hb d_Csrs_firstOf_17 rfl ?_
        refine lv_iand hx hb d_Csrs_firstOf_18 ?_
        refine lv_if_eq (tgt := 28) hx hb d_Csrs_firstOf_19 (by decide) (fun c_8 => ?_) (fun c_8 => ?_)
        · refine lv_iinc (v := 4) (lv' := [(1, .int 4), (0, .int x0)]) hx hb d_Csrs_firstOf_28 hl (k := 0) rfl rfl (by decide) rfl (fun ls hl => ?_)
          refine lv_goto (tgt := 2) hx hb d_Csrs_firstOf_31 (by decide) ?_
          refine lv_iload_n hx hb d_Csrs_firstOf_2 rfl (lv_at hl 0 rfl) ?_
          refine va_gets hx hb hF.2.2.1 hS hown (hts _ k_32) (fun _ h9 => h9) d_Csrs_firstOf_3 ?_
          refine va_tlen (v := 5) hx hb hF.2.2.2 hS rfl d_Csrs_firstOf_6 ?_
          refine lv_icmp_ge (tgt := 34) hx hb d_Csrs_firstOf_7 (by decide) (fun h9 => absurd h9 (by decide)) (fun _ => ?_)
          refine lv_iload_n hx hb d_Csrs_firstOf_10 rfl (lv_at hl 1 rfl) ?_
          refine va_gets hx hb hF.2.2.1 hS hown (hts _ k_32) (fun _ h9 => h9) d_Csrs_firstOf_11 ?_
          refine lv_iload_n hx hb d_Csrs_firstOf_14 rfl (lv_at hl 0 rfl) ?_
          refine va_ti (v := .int 5) hx hb hF.2.2.2 hS (by unfold vp_in; decide) rfl d_Csrs_firstOf_15 ?_
          refine y_ishr hx hb d_Csrs_firstOf_16 ?_
          refine lv_iconst (v := 1) hx hb d_Csrs_firstOf_17 rfl ?_
          refine lv_iand hx hb d_Csrs_firstOf_18 ?_
          refine lv_if_eq (tgt := 28) hx hb d_Csrs_firstOf_19 (by decide) (fun c_10 => ?_) (fun c_10 => ?_)
          · refine lv_iinc (v := 5) (lv' := [(1, .int 5), (0, .int x0)]) hx hb d_Csrs_firstOf_28 hl (k := 0) rfl rfl (by decide) rfl (fun ls hl => ?_)
            refine lv_goto (tgt := 2) hx hb d_Csrs_firstOf_31 (by decide) ?_
            refine lv_iload_n hx hb d_Csrs_firstOf_2 rfl (lv_at hl 0 rfl) ?_
            refine va_gets hx hb hF.2.2.1 hS hown (hts _ k_32) (fun _ h9 => h9) d_Csrs_firstOf_3 ?_
            refine va_tlen (v := 5) hx hb hF.2.2.2 hS rfl d_Csrs_firstOf_6 ?_
            refine lv_icmp_ge (tgt := 34) hx hb d_Csrs_firstOf_7 (by decide) (fun _ => ?_) (fun h9 => absurd (by decide) h9)
            refine lv_iconst (v := (-1)) hx hb d_Csrs_firstOf_34 rfl ?_
            exact ri () hx hb hr hlocks hP hD hS d_Csrs_firstOf_35 (by simp only [sp_Csrs_firstOf, if_pos c_2, if_pos c_4, if_pos c_6, if_pos c_8, if_pos c_10])
          · refine va_gets hx hb hF.2.2.1 hS hown (hts _ k_32) (fun _ h9 => h9) d_Csrs_firstOf_22 ?_
            refine lv_iload_n hx hb d_Csrs_firstOf_25 rfl (lv_at hl 0 rfl) ?_
            refine va_ti (v := .int 5) hx hb hF.2.2.2 hS (by unfold vp_in; decide) rfl d_Csrs_firstOf_26 ?_
            exact ri () hx hb hr hlocks hP hD hS d_Csrs_firstOf_27 (by simp only [sp_Csrs_firstOf, if_pos c_2, if_pos c_4, if_pos c_6, if_pos c_8, if_neg c_10])
        · refine va_gets hx hb hF.2.2.1 hS hown (hts _ k_32) (fun _ h9 => h9) d_Csrs_firstOf_22 ?_
          refine lv_iload_n hx hb d_Csrs_firstOf_25 rfl (lv_at hl 0 rfl) ?_
          refine va_ti (v := .int 1) hx hb hF.2.2.2 hS (by unfold vp_in; decide) rfl d_Csrs_firstOf_26 ?_
          exact ri () hx hb hr hlocks hP hD hS d_Csrs_firstOf_27 (by simp only [sp_Csrs_firstOf, if_pos c_2, if_pos c_4, if_pos c_6, if_neg c_8])
      · refine va_gets hx hb hF.2.2.1 hS hown (hts _ k_32) (fun _ h9 => h9) d_Csrs_firstOf_22 ?_
        refine lv_iload_n hx hb d_Csrs_firstOf_25 rfl (lv_at hl 0 rfl) ?_
        refine va_ti (v := .int 9) hx hb hF.2.2.2 hS (by unfold vp_in; decide) rfl d_Csrs_firstOf_26 ?_
        exact ri () hx hb hr hlocks hP hD hS d_Csrs_firstOf_27 (by simp only [sp_Csrs_firstOf, if_pos c_2, if_pos c_4, if_neg c_6])
    · refine va_gets hx hb hF.2.2.1 hS hown (hts _ k_32) (fun _ h9 => h9) d_Csrs_firstOf_22 ?_
      refine lv_iload_n hx hb d_Csrs_firstOf_25 rfl (lv_at hl 0 rfl) ?_
      refine va_ti (v := .int 7) hx hb hF.2.2.2 hS (by unfold vp_in; decide) rfl d_Csrs_firstOf_26 ?_
      exact ri () hx hb hr hlocks hP hD hS d_Csrs_firstOf_27 (by simp only [sp_Csrs_firstOf, if_pos c_2, if_neg c_4])
  · refine va_gets hx hb hF.2.2.1 hS hown (hts _ k_32) (fun _ h9 => h9) d_Csrs_firstOf_22 ?_
    refine lv_iload_n hx hb d_Csrs_firstOf_25 rfl (lv_at hl 0 rfl) ?_
    refine va_ti (v := .int 3) hx hb hF.2.2.2 hS (by unfold vp_in; decide) rfl d_Csrs_firstOf_26 ?_
    exact ri () hx hb hr hlocks hP hD hS d_Csrs_firstOf_27 (by simp only [sp_Csrs_firstOf, if_neg c_2])
def sp_Csrs_dueInterrupt (x0 : Int32) (x1 : Int32) (q : Nat → Int32) : Int32 :=
  if ((((q 10) ||| x1) &&& (q 4)) &&& ((q 3) ^^^ (-1))) = 0 then
    if ((((q 10) ||| x1) &&& (q 4)) &&& (q 3)) = 0 then
      (-1)
    else
      if x0 < 1 then
        sp_Csrs_firstOf ((((q 10) ||| x1) &&& (q 4)) &&& (q 3))
      else
        if x0 = 1 then
          if (sp_Csrs_has 2 q) = 0 then
            (-1)
          else
            sp_Csrs_firstOf ((((q 10) ||| x1) &&& (q 4)) &&& (q 3))
        else
          (-1)
  else
    if x0 < 3 then
      sp_Csrs_firstOf ((((q 10) ||| x1) &&& (q 4)) &&& ((q 3) ^^^ (-1)))
    else
      if (sp_Csrs_has 8 q) = 0 then
        if ((((q 10) ||| x1) &&& (q 4)) &&& (q 3)) = 0 then
          (-1)
        else
          if x0 < 1 then
            sp_Csrs_firstOf ((((q 10) ||| x1) &&& (q 4)) &&& (q 3))
          else
            if x0 = 1 then
              if (sp_Csrs_has 2 q) = 0 then
                (-1)
              else
                sp_Csrs_firstOf ((((q 10) ||| x1) &&& (q 4)) &&& (q 3))
            else
              (-1)
      else
        sp_Csrs_firstOf ((((q 10) ||| x1) &&& (q 4)) &&& ((q 3) ^^^ (-1)))
set_option maxHeartbeats 4000000 in
set_option maxRecDepth 100000 in
theorem c_Csrs_dueInterrupt {l : Launch} {D : va_G} {g : Nat → Nat} (h : Nat) (x0 : Int32) (x1 : Int32) (q : Nat → Int32)  : CT l D g y_Csrs_dueInterrupt b_Csrs_dueInterrupt 6 (some .int) (rD 1) [.ref h, .int x0, .int x1] (wC h q) ([]) (Qi D (fun (r : Int32) (_ : Unit) => sp_Csrs_dueInterrupt x0 x1 q = r) (fun _ => wC h q)) := by
  refine CT.of rfl (Nat.le_of_ble_eq_true rfl) (fun p e s m below meth c A ls hx hb hr hml hts hown hlocks hA hP hK hD hF hS hl => ?_)
  have hl : lv_has ls 6 [(0, .ref h), (1, .int x0), (2, .int x1)] := hl
  refine lv_aload_n hx hb d_Csrs_dueInterrupt_0 rfl (lv_at hl 0 rfl) ?_
  refine va_get (D := D) (ci := 3) (v := .int (q 10)) (C := R_Csrs) (T := F_Csrs) (N := 17) hx hb hts i_Csrs hown hK hP 0 rfl rfl 10 (by decide) (hts _ k_15) (fun _ h9 => h9) rfl d_Csrs_dueInterrupt_1 ?_
  refine lv_iload_n hx hb d_Csrs_dueInterrupt_4 rfl (lv_at hl 2 rfl) ?_
  refine lv_ior hx hb d_Csrs_dueInterrupt_5 ?_
  refine lv_aload_n hx hb d_Csrs_dueInterrupt_6 rfl (lv_at hl 0 rfl) ?_
  refine va_get (D := D) (ci := 3) (v := .int (q 4)) (C := R_Csrs) (T := F_Csrs) (N := 17) hx hb hts i_Csrs hown hK hP 0 rfl rfl 4 (by decide) (hts _ k_9) (fun _ h9 => h9) rfl d_Csrs_dueInterrupt_7 ?_
  refine lv_iand hx hb d_Csrs_dueInterrupt_10 ?_
  refine lv_istore_n (lv' := [(3, .int (((q 10) ||| x1) &&& (q 4))), (0, .ref h), (1, .int x0), (2, .int x1)]) hx hb d_Csrs_dueInterrupt_11 rfl hl (by decide) rfl (fun ls hl => ?_)
  refine lv_iload_n hx hb d_Csrs_dueInterrupt_12 rfl (lv_at hl 0 rfl) ?_
  refine lv_aload_n hx hb d_Csrs_dueInterrupt_13 rfl (lv_at hl 1 rfl) ?_
  refine va_get (D := D) (ci := 3) (v := .int (q 3)) (C := R_Csrs) (T := F_Csrs) (N := 17) hx hb hts i_Csrs hown hK hP 0 rfl rfl 3 (by decide) (hts _ k_8) (fun _ h9 => h9) rfl d_Csrs_dueInterrupt_14 ?_
  refine lv_iconst (v := (-1)) hx hb d_Csrs_dueInterrupt_17 rfl ?_
  refine lv_ixor hx hb d_Csrs_dueInterrupt_18 ?_
  refine lv_iand hx hb d_Csrs_dueInterrupt_19 ?_
  refine lv_istore (lv' := [(4, .int ((((q 10) ||| x1) &&& (q 4)) &&& ((q 3) ^^^ (-1)))), (3, .int (((q 10) ||| x1) &&& (q 4))), (0, .ref h), (1, .int x0), (2, .int x1)]) hx hb d_Csrs_dueInterrupt_20 hl (by decide) rfl (fun ls hl => ?_)
  refine lv_iload hx hb d_Csrs_dueInterrupt_22 (lv_at hl 0 rfl) ?_
  refine lv_if_eq (tgt := 47) hx hb d_Csrs_dueInterrupt_24 (by decide) (fun c_1 => ?_) (fun c_1 => ?_)
  · refine lv_iload_n hx hb d_Csrs_dueInterrupt_47 rfl (lv_at hl 1 rfl) ?_
    refine lv_aload_n hx hb d_Csrs_dueInterrupt_48 rfl (lv_at hl 2 rfl) ?_
    refine va_get (D := D) (ci := 3) (v := .int (q 3)) (C := R_Csrs) (T := F_Csrs) (N := 17) hx hb hts i_Csrs hown hK hP 0 rfl rfl 3 (by decide) (hts _ k_8) (fun _ h9 => h9) rfl d_Csrs_dueInterrupt_49 ?_
    refine lv_iand hx hb d_Csrs_dueInterrupt_52 ?_
    refine lv_istore (lv' := [(5, .int ((((q 10) ||| x1) &&& (q 4)) &&& (q 3))), (4, .int ((((q 10) ||| x1) &&& (q 4)) &&& ((q 3) ^^^ (-1)))), (3, .int (((q 10) ||| x1) &&& (q 4))), (0, .ref h), (1, .int x0), (2, .int x1)]) hx hb d_Csrs_dueInterrupt_53 hl (by decide) rfl (fun ls hl => ?_)
    refine lv_iload hx hb d_Csrs_dueInterrupt_55 (lv_at hl 0 rfl) ?_
    refine lv_if_eq (tgt := 84) hx hb d_Csrs_dueInterrupt_57 (by decide) (fun c_2 => ?_) (fun c_2 => ?_)
    · refine lv_iconst (v := (-1)) hx hb d_Csrs_dueInterrupt_84 rfl ?_
      exact ri () hx hb hr hlocks hP hD hS d_Csrs_dueInterrupt_85 (by simp only [sp_Csrs_dueInterrupt, if_pos c_1, if_pos c_2])
    · refine lv_iload_n hx hb d_Csrs_dueInterrupt_60 rfl (lv_at hl 4 rfl) ?_
      refine lv_iconst (v := 1) hx hb d_Csrs_dueInterrupt_61 rfl ?_
      refine lv_icmp_lt (tgt := 78) hx hb d_Csrs_dueInterrupt_62 (by decide) (fun c_3 => ?_) (fun c_3 => ?_)
      · refine lv_iload hx hb d_Csrs_dueInterrupt_78 (lv_at hl 0 rfl) ?_
        refine xi (wr := [(h, .inr (3, csF q))]) (W2 := fun _ => wC h q) (xS (rest := []) ⟨hx, hb, hml, hown, hts⟩ (c_Csrs_firstOf ((((q 10) ||| x1) &&& (q 4)) &&& (q 3))) mw_Csrs_firstOf ms_Csrs_firstOf k_33 ⟨rfl, rfl, Nat.le_of_ble_eq_true rfl, Nat.le_of_ble_eq_true rfl⟩ hK hP hD hS hA hF [] [] rfl rfl rfl rfl hl.1 rfl (Nat.le_of_ble_eq_true rfl) d_Csrs_dueInterrupt_80 ⟨Nat.zero_le _, Nat.zero_le _⟩) hP hD hS hA [] [0] [0] rfl rfl rfl (by decide) (fun _ => rfl) rfl (fun r_4 _ H locs h_4 hP hD hS => ?_)
        subst h_4
        exact ri () hx hb hr hlocks hP hD hS d_Csrs_dueInterrupt_83 (by simp only [sp_Csrs_dueInterrupt, if_pos c_1, if_neg c_2, if_pos c_3])
      · refine lv_iload_n hx hb d_Csrs_dueInterrupt_65 rfl (lv_at hl 4 rfl) ?_
        refine lv_iconst (v := 1) hx hb d_Csrs_dueInterrupt_66 rfl ?_
        refine lv_icmp_ne (tgt := 84) hx hb d_Csrs_dueInterrupt_67 (by decide) (fun c_5 => ?_) (fun c_5 => ?_)
        · refine lv_iconst (v := (-1)) hx hb d_Csrs_dueInterrupt_84 rfl ?_
          exact ri () hx hb hr hlocks hP hD hS d_Csrs_dueInterrupt_85 (by simp only [sp_Csrs_dueInterrupt, if_pos c_1, if_neg c_2, if_neg c_3, if_neg c_5])
        · refine lv_aload_n hx hb d_Csrs_dueInterrupt_70 rfl (lv_at hl 3 rfl) ?_
          refine lv_iconst (v := 2) hx hb d_Csrs_dueInterrupt_71 rfl ?_
          refine xi (wr := []) (W2 := fun _ => wC h q) (xV (rest := []) ⟨hx, hb, hml, hown, hts⟩ (c_Csrs_has h 2 q) mw_Csrs_has mv_Csrs_has k_34 ⟨rfl, rfl, Nat.le_of_ble_eq_true rfl, Nat.le_of_ble_eq_true rfl⟩ hK hP hD hS hA hF [0] [] rfl rfl rfl 0 3 rfl rfl rfl rfl hl.1 rfl (Nat.le_of_ble_eq_true rfl) d_Csrs_dueInterrupt_72 ⟨Nat.zero_le _, Nat.zero_le _⟩) hP hD hS hA [0] [] [0] rfl rfl rfl (by decide) (fun _ => rfl) rfl (fun r_6 _ H locs h_6 hP hD hS => ?_)
          obtain ⟨h_6, z_6⟩ := h_6
          subst h_6
          refine lv_if_eq (tgt := 84) hx hb d_Csrs_dueInterrupt_75 (by decide) (fun c_7 => ?_) (fun c_7 => ?_)
          · refine lv_iconst (v := (-1)) hx hb d_Csrs_dueInterrupt_84 rfl ?_
            exact ri () hx hb hr hlocks hP hD hS d_Csrs_dueInterrupt_85 (by simp only [sp_Csrs_dueInterrupt, if_pos c_1, if_neg c_2, if_neg c_3, if_pos c_5, if_pos c_7])
          · refine lv_iload hx hb d_Csrs_dueInterrupt_78 (lv_at hl 0 rfl) ?_
            refine xi (wr := [(h, .inr (3, csF q))]) (W2 := fun _ => wC h q) (xS (rest := []) ⟨hx, hb, hml, hown, hts⟩ (c_Csrs_firstOf ((((q 10) ||| x1) &&& (q 4)) &&& (q 3))) mw_Csrs_firstOf ms_Csrs_firstOf k_33 ⟨rfl, rfl, Nat.le_of_ble_eq_true rfl, Nat.le_of_ble_eq_true rfl⟩ hK hP hD hS hA hF [] [] rfl rfl rfl rfl hl.1 rfl (Nat.le_of_ble_eq_true rfl) d_Csrs_dueInterrupt_80 ⟨Nat.zero_le _, Nat.zero_le _⟩) hP hD hS hA [] [0] [0] rfl rfl rfl (by decide) (fun _ => rfl) rfl (fun r_8 _ H locs h_8 hP hD hS => ?_)
            subst h_8
            exact ri () hx hb hr hlocks hP hD hS d_Csrs_dueInterrupt_83 (by simp only [sp_Csrs_dueInterrupt, if_pos c_1, if_neg c_2, if_neg c_3, if_pos c_5, if_neg c_7])
  · refine lv_iload_n hx hb d_Csrs_dueInterrupt_27 rfl (lv_at hl 3 rfl) ?_
    refine lv_iconst (v := 3) hx hb d_Csrs_dueInterrupt_28 rfl ?_
    refine lv_icmp_lt (tgt := 41) hx hb d_Csrs_dueInterrupt_29 (by decide) (fun c_9 => ?_) (fun c_9 => ?_)
    · refine lv_iload hx hb d_Csrs_dueInterrupt_41 (lv_at hl 0 rfl) ?_
      refine xi (wr := [(h, .inr (3, csF q))]) (W2 := fun _ => wC h q) (xS (rest := []) ⟨hx, hb, hml, hown, hts⟩ (c_Csrs_firstOf ((((q 10) ||| x1) &&& (q 4)) &&& ((q 3) ^^^ (-1)))) mw_Csrs_firstOf ms_Csrs_firstOf k_33 ⟨rfl, rfl, Nat.le_of_ble_eq_true rfl, Nat.le_of_ble_eq_true rfl⟩ hK hP hD hS hA hF [] [] rfl rfl rfl rfl hl.1 rfl (Nat.le_of_ble_eq_true rfl) d_Csrs_dueInterrupt_43 ⟨Nat.zero_le _, Nat.zero_le _⟩) hP hD hS hA [] [0] [0] rfl rfl rfl (by decide) (fun _ => rfl) rfl (fun r_10 _ H locs h_10 hP hD hS => ?_)
      subst h_10
      exact ri () hx hb hr hlocks hP hD hS d_Csrs_dueInterrupt_46 (by simp only [sp_Csrs_dueInterrupt, if_neg c_1, if_pos c_9])
    · refine lv_aload_n hx hb d_Csrs_dueInterrupt_32 rfl (lv_at hl 2 rfl) ?_
      refine lv_bipush (v := 8) hx hb d_Csrs_dueInterrupt_33 rfl ?_
      refine xi (wr := []) (W2 := fun _ => wC h q) (xV (rest := []) ⟨hx, hb, hml, hown, hts⟩ (c_Csrs_has h 8 q) mw_Csrs_has mv_Csrs_has k_34 ⟨rfl, rfl, Nat.le_of_ble_eq_true rfl, Nat.le_of_ble_eq_true rfl⟩ hK hP hD hS hA hF [0] [] rfl rfl rfl 0 3 rfl rfl rfl rfl hl.1 rfl (Nat.le_of_ble_eq_true rfl) d_Csrs_dueInterrupt_35 ⟨Nat.zero_le _, Nat.zero_le _⟩) hP hD hS hA [0] [] [0] rfl rfl rfl (by decide) (fun _ => rfl) rfl (fun r_11 _ H locs h_11 hP hD hS => ?_)
      obtain ⟨h_11, z_11⟩ := h_11
      subst h_11
      refine lv_if_eq (tgt := 47) hx hb d_Csrs_dueInterrupt_38 (by decide) (fun c_12 => ?_) (fun c_12 => ?_)
      · refine lv_iload_n hx hb d_Csrs_dueInterrupt_47 rfl (lv_at hl 1 rfl) ?_
        refine lv_aload_n hx hb d_Csrs_dueInterrupt_48 rfl (lv_at hl 2 rfl) ?_
        refine va_get (D := D) (ci := 3) (v := .int (q 3)) (C := R_Csrs) (T := F_Csrs) (N := 17) hx hb hts i_Csrs hown hK hP 0 rfl rfl 3 (by decide) (hts _ k_8) (fun _ h9 => h9) rfl d_Csrs_dueInterrupt_49 ?_
        refine lv_iand hx hb d_Csrs_dueInterrupt_52 ?_
        refine lv_istore (lv' := [(5, .int ((((q 10) ||| x1) &&& (q 4)) &&& (q 3))), (4, .int ((((q 10) ||| x1) &&& (q 4)) &&& ((q 3) ^^^ (-1)))), (3, .int (((q 10) ||| x1) &&& (q 4))), (0, .ref h), (1, .int x0), (2, .int x1)]) hx hb d_Csrs_dueInterrupt_53 hl (by decide) rfl (fun ls hl => ?_)
        refine lv_iload hx hb d_Csrs_dueInterrupt_55 (lv_at hl 0 rfl) ?_
        refine lv_if_eq (tgt := 84) hx hb d_Csrs_dueInterrupt_57 (by decide) (fun c_13 => ?_) (fun c_13 => ?_)
        · refine lv_iconst (v := (-1)) hx hb d_Csrs_dueInterrupt_84 rfl ?_
          exact ri () hx hb hr hlocks hP hD hS d_Csrs_dueInterrupt_85 (by simp only [sp_Csrs_dueInterrupt, if_neg c_1, if_neg c_9, if_pos c_12, if_pos c_13])
        · refine lv_iload_n hx hb d_Csrs_dueInterrupt_60 rfl (lv_at hl 4 rfl) ?_
          refine lv_iconst (v := 1) hx hb d_Csrs_dueInterrupt_61 rfl ?_
          refine lv_icmp_lt (tgt := 78) hx hb d_Csrs_dueInterrupt_62 (by decide) (fun c_14 => ?_) (fun c_14 => ?_)
          · refine lv_iload hx hb d_Csrs_dueInterrupt_78 (lv_at hl 0 rfl) ?_
            refine xi (wr := [(h, .inr (3, csF q))]) (W2 := fun _ => wC h q) (xS (rest := []) ⟨hx, hb, hml, hown, hts⟩ (c_Csrs_firstOf ((((q 10) ||| x1) &&& (q 4)) &&& (q 3))) mw_Csrs_firstOf ms_Csrs_firstOf k_33 ⟨rfl, rfl, Nat.le_of_ble_eq_true rfl, Nat.le_of_ble_eq_true rfl⟩ hK hP hD hS hA hF [] [] rfl rfl rfl rfl hl.1 rfl (Nat.le_of_ble_eq_true rfl) d_Csrs_dueInterrupt_80 ⟨Nat.zero_le _, Nat.zero_le _⟩) hP hD hS hA [] [0] [0] rfl rfl rfl (by decide) (fun _ => rfl) rfl (fun r_15 _ H locs h_15 hP hD hS => ?_)
            subst h_15
            exact ri () hx hb hr hlocks hP hD hS d_Csrs_dueInterrupt_83 (by simp only [sp_Csrs_dueInterrupt, if_neg c_1, if_neg c_9, if_pos c_12, if_neg c_13, if_pos c_14])
          · refine lv_iload_n hx hb d_Csrs_dueInterrupt_65 rfl (lv_at hl 4 rfl) ?_
            refine lv_iconst (v := 1) hx hb d_Csrs_dueInterrupt_66 rfl ?_
            refine lv_icmp_ne (tgt := 84) hx hb d_Csrs_dueInterrupt_67 (by decide) (fun c_16 => ?_) (fun c_16 => ?_)
            · refine lv_iconst (v := (-1)) hx hb d_Csrs_dueInterrupt_84 rfl ?_
              exact ri () hx hb hr hlocks hP hD hS d_Csrs_dueInterrupt_85 (by simp only [sp_Csrs_dueInterrupt, if_neg c_1, if_neg c_9, if_pos c_12, if_neg c_13, if_neg c_14, if_neg c_16])
            · refine lv_aload_n hx hb d_Csrs_dueInterrupt_70 rfl (lv_at hl 3 rfl) ?_
              refine lv_iconst (v := 2) hx hb d_Csrs_dueInterrupt_71 rfl ?_
              refine xi (wr := []) (W2 := fun _ => wC h q) (xV (rest := []) ⟨hx, hb, hml, hown, hts⟩ (c_Csrs_has h 2 q) mw_Csrs_has mv_Csrs_has k_34 ⟨rfl, rfl, Nat.le_of_ble_eq_true rfl, Nat.le_of_ble_eq_true rfl⟩ hK hP hD hS hA hF [0] [] rfl rfl rfl 0 3 rfl rfl rfl rfl hl.1 rfl (Nat.le_of_ble_eq_true rfl) d_Csrs_dueInterrupt_72 ⟨Nat.zero_le _, Nat.zero_le _⟩) hP hD hS hA [0] [] [0] rfl rfl rfl (by decide) (fun _ => rfl) rfl (fun r_17 _ H locs h_17 hP hD hS => ?_)
              obtain ⟨h_17, z_17⟩ := h_17
              subst h_17
              refine lv_if_eq (tgt := 84) hx hb d_Csrs_dueInterrupt_75 (by decide) (fun c_18 => ?_) (fun c_18 => ?_)
              · refine lv_iconst (v := (-1)) hx hb d_Csrs_dueInterrupt_84 rfl ?_
                exact ri () hx hb hr hlocks hP hD hS d_Csrs_dueInterrupt_85 (by simp only [sp_Csrs_dueInterrupt, if_neg c_1, if_neg c_9, if_pos c_12, if_neg c_13, if_neg c_14, if_pos c_16, if_pos c_18])
              · refine lv_iload hx hb d_Csrs_dueInterrupt_78 (lv_at hl 0 rfl) ?_
                refine xi (wr := [(h, .inr (3, csF q))]) (W2 := fun _ => wC h q) (xS (rest := []) ⟨hx, hb, hml, hown, hts⟩ (c_Csrs_firstOf ((((q 10) ||| x1) &&& (q 4)) &&& (q 3))) mw_Csrs_firstOf ms_Csrs_firstOf k_33 ⟨rfl, rfl, Nat.le_of_ble_eq_true rfl, Nat.le_of_ble_eq_true rfl⟩ hK hP hD hS hA hF [] [] rfl rfl rfl rfl hl.1 rfl (Nat.le_of_ble_eq_true rfl) d_Csrs_dueInterrupt_80 ⟨Nat.zero_le _, Nat.zero_le _⟩) hP hD hS hA [] [0] [0] rfl rfl rfl (by decide) (fun _ => rfl) rfl (fun r_19 _ H locs h_19 hP hD hS => ?_)
                subst h_19
                exact ri () hx hb hr hlocks hP hD hS d_Csrs_dueInterrupt_83 (by simp only [sp_Csrs_dueInterrupt, if_neg c_1, if_neg c_9, if_pos c_12, if_neg c_13, if_neg c_14, if_pos c_16, if_neg c_18])
      · refine lv_iload hx hb d_Csrs_dueInterrupt_41 (lv_at hl 0 rfl) ?_
        refine xi (wr := [(h, .inr (3, csF q))]) (W2 := fun _ => wC h q) (xS (rest := []) ⟨hx, hb, hml, hown, hts⟩ (c_Csrs_firstOf ((((q 10) ||| x1) &&& (q 4)) &&& ((q 3) ^^^ (-1)))) mw_Csrs_firstOf ms_Csrs_firstOf k_33 ⟨rfl, rfl, Nat.le_of_ble_eq_true rfl, Nat.le_of_ble_eq_true rfl⟩ hK hP hD hS hA hF [] [] rfl rfl rfl rfl hl.1 rfl (Nat.le_of_ble_eq_true rfl) d_Csrs_dueInterrupt_43 ⟨Nat.zero_le _, Nat.zero_le _⟩) hP hD hS hA [] [0] [0] rfl rfl rfl (by decide) (fun _ => rfl) rfl (fun r_20 _ H locs h_20 hP hD hS => ?_)
        subst h_20
        exact ri () hx hb hr hlocks hP hD hS d_Csrs_dueInterrupt_46 (by simp only [sp_Csrs_dueInterrupt, if_neg c_1, if_neg c_9, if_neg c_12])
def sp_Csrs_handsDownInterrupt (x0 : Int32) (q : Nat → Int32) : Int32 :=
  if ((shr (q 3) x0) &&& 1) = 0 then
    0
  else
    1
set_option maxHeartbeats 4000000 in
set_option maxRecDepth 100000 in
theorem c_Csrs_handsDownInterrupt {l : Launch} {D : va_G} {g : Nat → Nat} (h : Nat) (x0 : Int32) (q : Nat → Int32)  : CT l D g y_Csrs_handsDownInterrupt b_Csrs_handsDownInterrupt 2 (some .boolean) (rD 0) [.ref h, .int x0] (wC h q) ([]) (Qi D (fun (r : Int32) (_ : Unit) => sp_Csrs_handsDownInterrupt x0 q = r ∧ (r = 0 ∨ r = 1)) (fun _ => wC h q)) := by
  refine CT.of rfl (Nat.le_of_ble_eq_true rfl) (fun p e s m below meth c A ls hx hb hr hml hts hown hlocks hA hP hK hD hF hS hl => ?_)
  have hl : lv_has ls 2 [(0, .ref h), (1, .int x0)] := hl
  refine lv_aload_n hx hb d_Csrs_handsDownInterrupt_0 rfl (lv_at hl 0 rfl) ?_
  refine va_get (D := D) (ci := 3) (v := .int (q 3)) (C := R_Csrs) (T := F_Csrs) (N := 17) hx hb hts i_Csrs hown hK hP 0 rfl rfl 3 (by decide) (hts _ k_8) (fun _ h9 => h9) rfl d_Csrs_handsDownInterrupt_1 ?_
  refine lv_iload_n hx hb d_Csrs_handsDownInterrupt_4 rfl (lv_at hl 1 rfl) ?_
  refine y_ishr hx hb d_Csrs_handsDownInterrupt_5 ?_
  refine lv_iconst (v := 1) hx hb d_Csrs_handsDownInterrupt_6 rfl ?_
  refine lv_iand hx hb d_Csrs_handsDownInterrupt_7 ?_
  refine lv_if_eq (tgt := 15) hx hb d_Csrs_handsDownInterrupt_8 (by decide) (fun c_1 => ?_) (fun c_1 => ?_)
  · refine lv_iconst (v := 0) hx hb d_Csrs_handsDownInterrupt_15 rfl ?_
    exact rz () hx hb hr hlocks rfl hP hD hS d_Csrs_handsDownInterrupt_16 ⟨by simp only [sp_Csrs_handsDownInterrupt, if_pos c_1], Or.inl rfl⟩
  · refine lv_iconst (v := 1) hx hb d_Csrs_handsDownInterrupt_11 rfl ?_
    refine lv_goto (tgt := 16) hx hb d_Csrs_handsDownInterrupt_12 (by decide) ?_
    exact rz () hx hb hr hlocks rfl hP hD hS d_Csrs_handsDownInterrupt_16 ⟨by simp only [sp_Csrs_handsDownInterrupt, if_neg c_1], Or.inr rfl⟩
def sp_Csrs_enterSupervisor (x0 : Int32) (x1 : Int32) (x2 : Int32) (x3 : Int32) (q : Nat → Int32) : Int32 × (Nat → Int32) :=
  if (sp_Csrs_has 2 (upd (upd (upd q 12 x0) 14 x1) 15 x2)) = 0 then
    if x3 = 1 then
      (q 11, (upd (upd (upd (upd q 12 x0) 14 x1) 15 x2) 1 ((((q 1) &&& (-291)) ||| 0) ||| 256)))
    else
      (q 11, (upd (upd (upd (upd q 12 x0) 14 x1) 15 x2) 1 ((((q 1) &&& (-291)) ||| 0) ||| 0)))
  else
    if x3 = 1 then
      (q 11, (upd (upd (upd (upd q 12 x0) 14 x1) 15 x2) 1 ((((q 1) &&& (-291)) ||| 32) ||| 256)))
    else
      (q 11, (upd (upd (upd (upd q 12 x0) 14 x1) 15 x2) 1 ((((q 1) &&& (-291)) ||| 32) ||| 0)))
set_option maxHeartbeats 4000000 in
set_option maxRecDepth 100000 in
theorem c_Csrs_enterSupervisor {l : Launch} {D : va_G} {g : Nat → Nat} (h : Nat) (x0 : Int32) (x1 : Int32) (x2 : Int32) (x3 : Int32) (q : Nat → Int32)  : CT l D g y_Csrs_enterSupervisor b_Csrs_enterSupervisor 7 (some .int) (rD 1) [.ref h, .int x0, .int x1, .int x2, .int x3] (wC h q) ([]) (Qi D (fun (r : Int32) (u : Nat → Int32) => sp_Csrs_enterSupervisor x0 x1 x2 x3 q = (r, u)) (fun u => wC h u)) := by
  refine CT.of rfl (Nat.le_of_ble_eq_true rfl) (fun p e s m below meth c A ls hx hb hr hml hts hown hlocks hA hP hK hD hF hS hl => ?_)
  have hl : lv_has ls 7 [(0, .ref h), (1, .int x0), (2, .int x1), (3, .int x2), (4, .int x3)] := hl
  refine lv_aload_n hx hb d_Csrs_enterSupervisor_0 rfl (lv_at hl 0 rfl) ?_
  refine lv_iload_n hx hb d_Csrs_enterSupervisor_1 rfl (lv_at hl 1 rfl) ?_
  refine y_put (D := D) (ci := 3) (v := .int x0) (ty := .int) (C := R_Csrs) (T := F_Csrs) (N := 17) (ws' := wC h (upd q 12 x0)) hx hb hts i_Csrs t_Csrs t_Csrs_ok n_Csrs hown hK hP hD hS 0 rfl rfl 12 (by decide) (hts _ k_17) (fun _ h9 => h9) rfl (by decide +kernel) rfl rfl (Nat.le_of_ble_eq_true rfl) d_Csrs_enterSupervisor_2 rfl (fun H locs hP hD hS => ?_)
  refine lv_aload_n hx hb d_Csrs_enterSupervisor_5 rfl (lv_at hl 0 rfl) ?_
  refine lv_iload_n hx hb d_Csrs_enterSupervisor_6 rfl (lv_at hl 2 rfl) ?_
  refine y_put (D := D) (ci := 3) (v := .int x1) (ty := .int) (C := R_Csrs) (T := F_Csrs) (N := 17) (ws' := wC h (upd (upd q 12 x0) 14 x1)) hx hb hts i_Csrs t_Csrs t_Csrs_ok n_Csrs hown hK hP hD hS 0 rfl rfl 14 (by decide) (hts _ k_19) (fun _ h9 => h9) rfl (by decide +kernel) rfl rfl (Nat.le_of_ble_eq_true rfl) d_Csrs_enterSupervisor_7 rfl (fun H locs hP hD hS => ?_)
  refine lv_aload_n hx hb d_Csrs_enterSupervisor_10 rfl (lv_at hl 0 rfl) ?_
  refine lv_iload_n hx hb d_Csrs_enterSupervisor_11 rfl (lv_at hl 3 rfl) ?_
  refine y_put (D := D) (ci := 3) (v := .int x2) (ty := .int) (C := R_Csrs) (T := F_Csrs) (N := 17) (ws' := wC h (upd (upd (upd q 12 x0) 14 x1) 15 x2)) hx hb hts i_Csrs t_Csrs t_Csrs_ok n_Csrs hown hK hP hD hS 0 rfl rfl 15 (by decide) (hts _ k_20) (fun _ h9 => h9) rfl (by decide +kernel) rfl rfl (Nat.le_of_ble_eq_true rfl) d_Csrs_enterSupervisor_12 rfl (fun H locs hP hD hS => ?_)
  refine lv_aload_n hx hb d_Csrs_enterSupervisor_15 rfl (lv_at hl 0 rfl) ?_
  refine lv_iconst (v := 2) hx hb d_Csrs_enterSupervisor_16 rfl ?_
  refine xi (wr := []) (W2 := fun _ => wC h (upd (upd (upd q 12 x0) 14 x1) 15 x2)) (xV (rest := []) ⟨hx, hb, hml, hown, hts⟩ (c_Csrs_has h 2 (upd (upd (upd q 12 x0) 14 x1) 15 x2)) mw_Csrs_has mv_Csrs_has k_34 ⟨rfl, rfl, Nat.le_of_ble_eq_true rfl, Nat.le_of_ble_eq_true rfl⟩ hK hP hD hS hA hF [0] [] rfl rfl rfl 0 3 rfl rfl rfl rfl hl.1 rfl (Nat.le_of_ble_eq_true rfl) d_Csrs_enterSupervisor_17 ⟨Nat.zero_le _, Nat.zero_le _⟩) hP hD hS hA [0] [] [0] rfl rfl rfl (by decide) (fun _ => rfl) rfl (fun r_1 _ H locs h_1 hP hD hS => ?_)
  obtain ⟨h_1, z_1⟩ := h_1
  subst h_1
  refine lv_if_eq (tgt := 28) hx hb d_Csrs_enterSupervisor_20 (by decide) (fun c_2 => ?_) (fun c_2 => ?_)
  · refine lv_iconst (v := 0) hx hb d_Csrs_enterSupervisor_28 rfl ?_
    refine lv_istore (lv' := [(5, .int 0), (0, .ref h), (1, .int x0), (2, .int x1), (3, .int x2), (4, .int x3)]) hx hb d_Csrs_enterSupervisor_29 hl (by decide) rfl (fun ls hl => ?_)
    refine lv_iload hx hb d_Csrs_enterSupervisor_31 (lv_at hl 5 rfl) ?_
    refine lv_iconst (v := 1) hx hb d_Csrs_enterSupervisor_33 rfl ?_
    refine lv_icmp_ne (tgt := 43) hx hb d_Csrs_enterSupervisor_34 (by decide) (fun c_3 => ?_) (fun c_3 => ?_)
    · refine lv_iconst (v := 0) hx hb d_Csrs_enterSupervisor_43 rfl ?_
      refine lv_istore (lv' := [(6, .int 0), (5, .int 0), (0, .ref h), (1, .int x0), (2, .int x1), (3, .int x2), (4, .int x3)]) hx hb d_Csrs_enterSupervisor_44 hl (by decide) rfl (fun ls hl => ?_)
      refine lv_aload_n hx hb d_Csrs_enterSupervisor_46 rfl (lv_at hl 2 rfl) ?_
      refine lv_aload_n hx hb d_Csrs_enterSupervisor_47 rfl (lv_at hl 2 rfl) ?_
      refine va_get (D := D) (ci := 3) (v := .int (q 1)) (C := R_Csrs) (T := F_Csrs) (N := 17) hx hb hts i_Csrs hown hK hP 0 rfl rfl 1 (by decide) (hts _ k_6) (fun _ h9 => h9) rfl d_Csrs_enterSupervisor_48 ?_
      refine lv_sipush (v := (-291)) hx hb d_Csrs_enterSupervisor_51 rfl ?_
      refine lv_iand hx hb d_Csrs_enterSupervisor_54 ?_
      refine lv_iload hx hb d_Csrs_enterSupervisor_55 (lv_at hl 1 rfl) ?_
      refine lv_ior hx hb d_Csrs_enterSupervisor_57 ?_
      refine lv_iload hx hb d_Csrs_enterSupervisor_58 (lv_at hl 0 rfl) ?_
      refine lv_ior hx hb d_Csrs_enterSupervisor_60 ?_
      refine y_put (D := D) (ci := 3) (v := .int ((((q 1) &&& (-291)) ||| 0) ||| 0)) (ty := .int) (C := R_Csrs) (T := F_Csrs) (N := 17) (ws' := wC h (upd (upd (upd (upd q 12 x0) 14 x1) 15 x2) 1 ((((q 1) &&& (-291)) ||| 0) ||| 0))) hx hb hts i_Csrs t_Csrs t_Csrs_ok n_Csrs hown hK hP hD hS 0 rfl rfl 1 (by decide) (hts _ k_6) (fun _ h9 => h9) rfl (by decide +kernel) rfl rfl (Nat.le_of_ble_eq_true rfl) d_Csrs_enterSupervisor_61 rfl (fun H locs hP hD hS => ?_)
      refine lv_aload_n hx hb d_Csrs_enterSupervisor_64 rfl (lv_at hl 2 rfl) ?_
      refine va_get (D := D) (ci := 3) (v := .int (q 11)) (C := R_Csrs) (T := F_Csrs) (N := 17) hx hb hts i_Csrs hown hK hP 0 rfl rfl 11 (by decide) (hts _ k_16) (fun _ h9 => h9) rfl d_Csrs_enterSupervisor_65 ?_
      exact ri (upd (upd (upd (upd q 12 x0) 14 x1) 15 x2) 1 ((((q 1) &&& (-291)) ||| 0) ||| 0)) hx hb hr hlocks hP hD hS d_Csrs_enterSupervisor_68 (by simp only [sp_Csrs_enterSupervisor, if_pos c_2, if_neg c_3])
    · refine lv_sipush (v := 256) hx hb d_Csrs_enterSupervisor_37 rfl ?_
      refine lv_goto (tgt := 44) hx hb d_Csrs_enterSupervisor_40 (by decide) ?_
      refine lv_istore (lv' := [(6, .int 256), (5, .int 0), (0, .ref h), (1, .int x0), (2, .int x1), (3, .int x2), (4, .int x3)]) hx hb d_Csrs_enterSupervisor_44 hl (by decide) rfl (fun ls hl => ?_)
      refine lv_aload_n hx hb d_Csrs_enterSupervisor_46 rfl (lv_at hl 2 rfl) ?_
      refine lv_aload_n hx hb d_Csrs_enterSupervisor_47 rfl (lv_at hl 2 rfl) ?_
      refine va_get (D := D) (ci := 3) (v := .int (q 1)) (C := R_Csrs) (T := F_Csrs) (N := 17) hx hb hts i_Csrs hown hK hP 0 rfl rfl 1 (by decide) (hts _ k_6) (fun _ h9 => h9) rfl d_Csrs_enterSupervisor_48 ?_
      refine lv_sipush (v := (-291)) hx hb d_Csrs_enterSupervisor_51 rfl ?_
      refine lv_iand hx hb d_Csrs_enterSupervisor_54 ?_
      refine lv_iload hx hb d_Csrs_enterSupervisor_55 (lv_at hl 1 rfl) ?_
      refine lv_ior hx hb d_Csrs_enterSupervisor_57 ?_
      refine lv_iload hx hb d_Csrs_enterSupervisor_58 (lv_at hl 0 rfl) ?_
      refine lv_ior hx hb d_Csrs_enterSupervisor_60 ?_
      refine y_put (D := D) (ci := 3) (v := .int ((((q 1) &&& (-291)) ||| 0) ||| 256)) (ty := .int) (C := R_Csrs) (T := F_Csrs) (N := 17) (ws' := wC h (upd (upd (upd (upd q 12 x0) 14 x1) 15 x2) 1 ((((q 1) &&& (-291)) ||| 0) ||| 256))) hx hb hts i_Csrs t_Csrs t_Csrs_ok n_Csrs hown hK hP hD hS 0 rfl rfl 1 (by decide) (hts _ k_6) (fun _ h9 => h9) rfl (by decide +kernel) rfl rfl (Nat.le_of_ble_eq_true rfl) d_Csrs_enterSupervisor_61 rfl (fun H locs hP hD hS => ?_)
      refine lv_aload_n hx hb d_Csrs_enterSupervisor_64 rfl (lv_at hl 2 rfl) ?_
      refine va_get (D := D) (ci := 3) (v := .int (q 11)) (C := R_Csrs) (T := F_Csrs) (N := 17) hx hb hts i_Csrs hown hK hP 0 rfl rfl 11 (by decide) (hts _ k_16) (fun _ h9 => h9) rfl d_Csrs_enterSupervisor_65 ?_
      exact ri (upd (upd (upd (upd q 12 x0) 14 x1) 15 x2) 1 ((((q 1) &&& (-291)) ||| 0) ||| 256)) hx hb hr hlocks hP hD hS d_Csrs_enterSupervisor_68 (by simp only [sp_Csrs_enterSupervisor, if_pos c_2, if_pos c_3])
  · refine lv_bipush (v := 32) hx hb d_Csrs_enterSupervisor_23 rfl ?_
    refine lv_goto (tgt := 29) hx hb d_Csrs_enterSupervisor_25 (by decide) ?_
    refine lv_istore (lv' := [(5, .int 32), (0, .ref h), (1, .int x0), (2, .int x1), (3, .int x2), (4, .int x3)]) hx hb d_Csrs_enterSupervisor_29 hl (by decide) rfl (fun ls hl => ?_)
    refine lv_iload hx hb d_Csrs_enterSupervisor_31 (lv_at hl 5 rfl) ?_
    refine lv_iconst (v := 1) hx hb d_Csrs_enterSupervisor_33 rfl ?_
    refine lv_icmp_ne (tgt := 43) hx hb d_Csrs_enterSupervisor_34 (by decide) (fun c_4 => ?_) (fun c_4 => ?_)
    · refine lv_iconst (v := 0) hx hb d_Csrs_enterSupervisor_43 rfl ?_
      refine lv_istore (lv' := [(6, .int 0), (5, .int 32), (0, .ref h), (1, .int x0), (2, .int x1), (3, .int x2), (4, .int x3)]) hx hb d_Csrs_enterSupervisor_44 hl (by decide) rfl (fun ls hl => ?_)
      refine lv_aload_n hx hb d_Csrs_enterSupervisor_46 rfl (lv_at hl 2 rfl) ?_
      refine lv_aload_n hx hb d_Csrs_enterSupervisor_47 rfl (lv_at hl 2 rfl) ?_
      refine va_get (D := D) (ci := 3) (v := .int (q 1)) (C := R_Csrs) (T := F_Csrs) (N := 17) hx hb hts i_Csrs hown hK hP 0 rfl rfl 1 (by decide) (hts _ k_6) (fun _ h9 => h9) rfl d_Csrs_enterSupervisor_48 ?_
      refine lv_sipush (v := (-291)) hx hb d_Csrs_enterSupervisor_51 rfl ?_
      refine lv_iand hx hb d_Csrs_enterSupervisor_54 ?_
      refine lv_iload hx hb d_Csrs_enterSupervisor_55 (lv_at hl 1 rfl) ?_
      refine lv_ior hx hb d_Csrs_enterSupervisor_57 ?_
      refine lv_iload hx hb d_Csrs_enterSupervisor_58 (lv_at hl 0 rfl) ?_
      refine lv_ior hx hb d_Csrs_enterSupervisor_60 ?_
      refine y_put (D := D) (ci := 3) (v := .int ((((q 1) &&& (-291)) ||| 32) ||| 0)) (ty := .int) (C := R_Csrs) (T := F_Csrs) (N := 17) (ws' := wC h (upd (upd (upd (upd q 12 x0) 14 x1) 15 x2) 1 ((((q 1) &&& (-291)) ||| 32) ||| 0))) hx hb hts i_Csrs t_Csrs t_Csrs_ok n_Csrs hown hK hP hD hS 0 rfl rfl 1 (by decide) (hts _ k_6) (fun _ h9 => h9) rfl (by decide +kernel) rfl rfl (Nat.le_of_ble_eq_true rfl) d_Csrs_enterSupervisor_61 rfl (fun H locs hP hD hS => ?_)
      refine lv_aload_n hx hb d_Csrs_enterSupervisor_64 rfl (lv_at hl 2 rfl) ?_
      refine va_get (D := D) (ci := 3) (v := .int (q 11)) (C := R_Csrs) (T := F_Csrs) (N := 17) hx hb hts i_Csrs hown hK hP 0 rfl rfl 11 (by decide) (hts _ k_16) (fun _ h9 => h9) rfl d_Csrs_enterSupervisor_65 ?_
      exact ri (upd (upd (upd (upd q 12 x0) 14 x1) 15 x2) 1 ((((q 1) &&& (-291)) ||| 32) ||| 0)) hx hb hr hlocks hP hD hS d_Csrs_enterSupervisor_68 (by simp only [sp_Csrs_enterSupervisor, if_neg c_2, if_neg c_4])
    · refine lv_sipush (v := 256) hx hb d_Csrs_enterSupervisor_37 rfl ?_
      refine lv_goto (tgt := 44) hx hb d_Csrs_enterSupervisor_40 (by decide) ?_
      refine lv_istore (lv' := [(6, .int 256), (5, .int 32), (0, .ref h), (1, .int x0), (2, .int x1), (3, .int x2), (4, .int x3)]) hx hb d_Csrs_enterSupervisor_44 hl (by decide) rfl (fun ls hl => ?_)
      refine lv_aload_n hx hb d_Csrs_enterSupervisor_46 rfl (lv_at hl 2 rfl) ?_
      refine lv_aload_n hx hb d_Csrs_enterSupervisor_47 rfl (lv_at hl 2 rfl) ?_
      refine va_get (D := D) (ci := 3) (v := .int (q 1)) (C := R_Csrs) (T := F_Csrs) (N := 17) hx hb hts i_Csrs hown hK hP 0 rfl rfl 1 (by decide) (hts _ k_6) (fun _ h9 => h9) rfl d_Csrs_enterSupervisor_48 ?_
      refine lv_sipush (v := (-291)) hx hb d_Csrs_enterSupervisor_51 rfl ?_
      refine lv_iand hx hb d_Csrs_enterSupervisor_54 ?_
      refine lv_iload hx hb d_Csrs_enterSupervisor_55 (lv_at hl 1 rfl) ?_
      refine lv_ior hx hb d_Csrs_enterSupervisor_57 ?_
      refine lv_iload hx hb d_Csrs_enterSupervisor_58 (lv_at hl 0 rfl) ?_
      refine lv_ior hx hb d_Csrs_enterSupervisor_60 ?_
      refine y_put (D := D) (ci := 3) (v := .int ((((q 1) &&& (-291)) ||| 32) ||| 256)) (ty := .int) (C := R_Csrs) (T := F_Csrs) (N := 17) (ws' := wC h (upd (upd (upd (upd q 12 x0) 14 x1) 15 x2) 1 ((((q 1) &&& (-291)) ||| 32) ||| 256))) hx hb hts i_Csrs t_Csrs t_Csrs_ok n_Csrs hown hK hP hD hS 0 rfl rfl 1 (by decide) (hts _ k_6) (fun _ h9 => h9) rfl (by decide +kernel) rfl rfl (Nat.le_of_ble_eq_true rfl) d_Csrs_enterSupervisor_61 rfl (fun H locs hP hD hS => ?_)
      refine lv_aload_n hx hb d_Csrs_enterSupervisor_64 rfl (lv_at hl 2 rfl) ?_
      refine va_get (D := D) (ci := 3) (v := .int (q 11)) (C := R_Csrs) (T := F_Csrs) (N := 17) hx hb hts i_Csrs hown hK hP 0 rfl rfl 11 (by decide) (hts _ k_16) (fun _ h9 => h9) rfl d_Csrs_enterSupervisor_65 ?_
      exact ri (upd (upd (upd (upd q 12 x0) 14 x1) 15 x2) 1 ((((q 1) &&& (-291)) ||| 32) ||| 256)) hx hb hr hlocks hP hD hS d_Csrs_enterSupervisor_68 (by simp only [sp_Csrs_enterSupervisor, if_neg c_2, if_pos c_4])
def sp_Csrs_enterMachine (x0 : Int32) (x1 : Int32) (x2 : Int32) (x3 : Int32) (q : Nat → Int32) : Int32 × (Nat → Int32) :=
  if (sp_Csrs_has 8 (upd (upd (upd q 6 x0) 8 x1) 9 x2)) = 0 then
    (q 5, (upd (upd (upd (upd q 6 x0) 8 x1) 9 x2) 1 ((((q 1) &&& (-6281)) ||| 0) ||| (shl x3 11))))
  else
    (q 5, (upd (upd (upd (upd q 6 x0) 8 x1) 9 x2) 1 ((((q 1) &&& (-6281)) ||| 128) ||| (shl x3 11))))
set_option maxHeartbeats 4000000 in
set_option maxRecDepth 100000 in
theorem c_Csrs_enterMachine {l : Launch} {D : va_G} {g : Nat → Nat} (h : Nat) (x0 : Int32) (x1 : Int32) (x2 : Int32) (x3 : Int32) (q : Nat → Int32)  : CT l D g y_Csrs_enterMachine b_Csrs_enterMachine 6 (some .int) (rD 1) [.ref h, .int x0, .int x1, .int x2, .int x3] (wC h q) ([]) (Qi D (fun (r : Int32) (u : Nat → Int32) => sp_Csrs_enterMachine x0 x1 x2 x3 q = (r, u)) (fun u => wC h u)) := by
  refine CT.of rfl (Nat.le_of_ble_eq_true rfl) (fun p e s m below meth c A ls hx hb hr hml hts hown hlocks hA hP hK hD hF hS hl => ?_)
  have hl : lv_has ls 6 [(0, .ref h), (1, .int x0), (2, .int x1), (3, .int x2), (4, .int x3)] := hl
  refine lv_aload_n hx hb d_Csrs_enterMachine_0 rfl (lv_at hl 0 rfl) ?_
  refine lv_iload_n hx hb d_Csrs_enterMachine_1 rfl (lv_at hl 1 rfl) ?_
  refine y_put (D := D) (ci := 3) (v := .int x0) (ty := .int) (C := R_Csrs) (T := F_Csrs) (N := 17) (ws' := wC h (upd q 6 x0)) hx hb hts i_Csrs t_Csrs t_Csrs_ok n_Csrs hown hK hP hD hS 0 rfl rfl 6 (by decide) (hts _ k_11) (fun _ h9 => h9) rfl (by decide +kernel) rfl rfl (Nat.le_of_ble_eq_true rfl) d_Csrs_enterMachine_2 rfl (fun H locs hP hD hS => ?_)
  refine lv_aload_n hx hb d_Csrs_enterMachine_5 rfl (lv_at hl 0 rfl) ?_
  refine lv_iload_n hx hb d_Csrs_enterMachine_6 rfl (lv_at hl 2 rfl) ?_
  refine y_put (D := D) (ci := 3) (v := .int x1) (ty := .int) (C := R_Csrs) (T := F_Csrs) (N := 17) (ws' := wC h (upd (upd q 6 x0) 8 x1)) hx hb hts i_Csrs t_Csrs t_Csrs_ok n_Csrs hown hK hP hD hS 0 rfl rfl 8 (by decide) (hts _ k_13) (fun _ h9 => h9) rfl (by decide +kernel) rfl rfl (Nat.le_of_ble_eq_true rfl) d_Csrs_enterMachine_7 rfl (fun H locs hP hD hS => ?_)
  refine lv_aload_n hx hb d_Csrs_enterMachine_10 rfl (lv_at hl 0 rfl) ?_
  refine lv_iload_n hx hb d_Csrs_enterMachine_11 rfl (lv_at hl 3 rfl) ?_
  refine y_put (D := D) (ci := 3) (v := .int x2) (ty := .int) (C := R_Csrs) (T := F_Csrs) (N := 17) (ws' := wC h (upd (upd (upd q 6 x0) 8 x1) 9 x2)) hx hb hts i_Csrs t_Csrs t_Csrs_ok n_Csrs hown hK hP hD hS 0 rfl rfl 9 (by decide) (hts _ k_14) (fun _ h9 => h9) rfl (by decide +kernel) rfl rfl (Nat.le_of_ble_eq_true rfl) d_Csrs_enterMachine_12 rfl (fun H locs hP hD hS => ?_)
  refine lv_aload_n hx hb d_Csrs_enterMachine_15 rfl (lv_at hl 0 rfl) ?_
  refine lv_bipush (v := 8) hx hb d_Csrs_enterMachine_16 rfl ?_
  refine xi (wr := []) (W2 := fun _ => wC h (upd (upd (upd q 6 x0) 8 x1) 9 x2)) (xV (rest := []) ⟨hx, hb, hml, hown, hts⟩ (c_Csrs_has h 8 (upd (upd (upd q 6 x0) 8 x1) 9 x2)) mw_Csrs_has mv_Csrs_has k_34 ⟨rfl, rfl, Nat.le_of_ble_eq_true rfl, Nat.le_of_ble_eq_true rfl⟩ hK hP hD hS hA hF [0] [] rfl rfl rfl 0 3 rfl rfl rfl rfl hl.1 rfl (Nat.le_of_ble_eq_true rfl) d_Csrs_enterMachine_18 ⟨Nat.zero_le _, Nat.zero_le _⟩) hP hD hS hA [0] [] [0] rfl rfl rfl (by decide) (fun _ => rfl) rfl (fun r_1 _ H locs h_1 hP hD hS => ?_)
  obtain ⟨h_1, z_1⟩ := h_1
  subst h_1
  refine lv_if_eq (tgt := 30) hx hb d_Csrs_enterMachine_21 (by decide) (fun c_2 => ?_) (fun c_2 => ?_)
  · refine lv_iconst (v := 0) hx hb d_Csrs_enterMachine_30 rfl ?_
    refine lv_istore (lv' := [(5, .int 0), (0, .ref h), (1, .int x0), (2, .int x1), (3, .int x2), (4, .int x3)]) hx hb d_Csrs_enterMachine_31 hl (by decide) rfl (fun ls hl => ?_)
    refine lv_aload_n hx hb d_Csrs_enterMachine_33 rfl (lv_at hl 1 rfl) ?_
    refine lv_aload_n hx hb d_Csrs_enterMachine_34 rfl (lv_at hl 1 rfl) ?_
    refine va_get (D := D) (ci := 3) (v := .int (q 1)) (C := R_Csrs) (T := F_Csrs) (N := 17) hx hb hts i_Csrs hown hK hP 0 rfl rfl 1 (by decide) (hts _ k_6) (fun _ h9 => h9) rfl d_Csrs_enterMachine_35 ?_
    refine lv_sipush (v := (-6281)) hx hb d_Csrs_enterMachine_38 rfl ?_
    refine lv_iand hx hb d_Csrs_enterMachine_41 ?_
    refine lv_iload hx hb d_Csrs_enterMachine_42 (lv_at hl 0 rfl) ?_
    refine lv_ior hx hb d_Csrs_enterMachine_44 ?_
    refine lv_iload hx hb d_Csrs_enterMachine_45 (lv_at hl 5 rfl) ?_
    refine lv_bipush (v := 11) hx hb d_Csrs_enterMachine_47 rfl ?_
    refine y_ishl hx hb d_Csrs_enterMachine_49 ?_
    refine lv_ior hx hb d_Csrs_enterMachine_50 ?_
    refine y_put (D := D) (ci := 3) (v := .int ((((q 1) &&& (-6281)) ||| 0) ||| (shl x3 11))) (ty := .int) (C := R_Csrs) (T := F_Csrs) (N := 17) (ws' := wC h (upd (upd (upd (upd q 6 x0) 8 x1) 9 x2) 1 ((((q 1) &&& (-6281)) ||| 0) ||| (shl x3 11)))) hx hb hts i_Csrs t_Csrs t_Csrs_ok n_Csrs hown hK hP hD hS 0 rfl rfl 1 (by decide) (hts _ k_6) (fun _ h9 => h9) rfl (by decide +kernel) rfl rfl (Nat.le_of_ble_eq_true rfl) d_Csrs_enterMachine_51 rfl (fun H locs hP hD hS => ?_)
    refine lv_aload_n hx hb d_Csrs_enterMachine_54 rfl (lv_at hl 1 rfl) ?_
    refine va_get (D := D) (ci := 3) (v := .int (q 5)) (C := R_Csrs) (T := F_Csrs) (N := 17) hx hb hts i_Csrs hown hK hP 0 rfl rfl 5 (by decide) (hts _ k_10) (fun _ h9 => h9) rfl d_Csrs_enterMachine_55 ?_
    exact ri (upd (upd (upd (upd q 6 x0) 8 x1) 9 x2) 1 ((((q 1) &&& (-6281)) ||| 0) ||| (shl x3 11))) hx hb hr hlocks hP hD hS d_Csrs_enterMachine_58 (by simp only [sp_Csrs_enterMachine, if_pos c_2])
  · refine lv_sipush (v := 128) hx hb d_Csrs_enterMachine_24 rfl ?_
    refine lv_goto (tgt := 31) hx hb d_Csrs_enterMachine_27 (by decide) ?_
    refine lv_istore (lv' := [(5, .int 128), (0, .ref h), (1, .int x0), (2, .int x1), (3, .int x2), (4, .int x3)]) hx hb d_Csrs_enterMachine_31 hl (by decide) rfl (fun ls hl => ?_)
    refine lv_aload_n hx hb d_Csrs_enterMachine_33 rfl (lv_at hl 1 rfl) ?_
    refine lv_aload_n hx hb d_Csrs_enterMachine_34 rfl (lv_at hl 1 rfl) ?_
    refine va_get (D := D) (ci := 3) (v := .int (q 1)) (C := R_Csrs) (T := F_Csrs) (N := 17) hx hb hts i_Csrs hown hK hP 0 rfl rfl 1 (by decide) (hts _ k_6) (fun _ h9 => h9) rfl d_Csrs_enterMachine_35 ?_
    refine lv_sipush (v := (-6281)) hx hb d_Csrs_enterMachine_38 rfl ?_
    refine lv_iand hx hb d_Csrs_enterMachine_41 ?_
    refine lv_iload hx hb d_Csrs_enterMachine_42 (lv_at hl 0 rfl) ?_
    refine lv_ior hx hb d_Csrs_enterMachine_44 ?_
    refine lv_iload hx hb d_Csrs_enterMachine_45 (lv_at hl 5 rfl) ?_
    refine lv_bipush (v := 11) hx hb d_Csrs_enterMachine_47 rfl ?_
    refine y_ishl hx hb d_Csrs_enterMachine_49 ?_
    refine lv_ior hx hb d_Csrs_enterMachine_50 ?_
    refine y_put (D := D) (ci := 3) (v := .int ((((q 1) &&& (-6281)) ||| 128) ||| (shl x3 11))) (ty := .int) (C := R_Csrs) (T := F_Csrs) (N := 17) (ws' := wC h (upd (upd (upd (upd q 6 x0) 8 x1) 9 x2) 1 ((((q 1) &&& (-6281)) ||| 128) ||| (shl x3 11)))) hx hb hts i_Csrs t_Csrs t_Csrs_ok n_Csrs hown hK hP hD hS 0 rfl rfl 1 (by decide) (hts _ k_6) (fun _ h9 => h9) rfl (by decide +kernel) rfl rfl (Nat.le_of_ble_eq_true rfl) d_Csrs_enterMachine_51 rfl (fun H locs hP hD hS => ?_)
    refine lv_aload_n hx hb d_Csrs_enterMachine_54 rfl (lv_at hl 1 rfl) ?_
    refine va_get (D := D) (ci := 3) (v := .int (q 5)) (C := R_Csrs) (T := F_Csrs) (N := 17) hx hb hts i_Csrs hown hK hP 0 rfl rfl 5 (by decide) (hts _ k_10) (fun _ h9 => h9) rfl d_Csrs_enterMachine_55 ?_
    exact ri (upd (upd (upd (upd q 6 x0) 8 x1) 9 x2) 1 ((((q 1) &&& (-6281)) ||| 128) ||| (shl x3 11))) hx hb hr hlocks hP hD hS d_Csrs_enterMachine_58 (by simp only [sp_Csrs_enterMachine, if_neg c_2])
def sp_Csrs_levelBefore  (q : Nat → Int32) : Int32 :=
  shr ((q 1) &&& 6144) 11
set_option maxHeartbeats 4000000 in
set_option maxRecDepth 100000 in
theorem c_Csrs_levelBefore {l : Launch} {D : va_G} {g : Nat → Nat} (h : Nat)  (q : Nat → Int32)  : CT l D g y_Csrs_levelBefore b_Csrs_levelBefore 1 (some .int) (rD 0) [.ref h] (wC h q) ([]) (Qi D (fun (r : Int32) (_ : Unit) => sp_Csrs_levelBefore q = r) (fun _ => wC h q)) := by
  refine CT.of rfl (Nat.le_of_ble_eq_true rfl) (fun p e s m below meth c A ls hx hb hr hml hts hown hlocks hA hP hK hD hF hS hl => ?_)
  have hl : lv_has ls 1 [(0, .ref h)] := hl
  refine lv_aload_n hx hb d_Csrs_levelBefore_0 rfl (lv_at hl 0 rfl) ?_
  refine va_get (D := D) (ci := 3) (v := .int (q 1)) (C := R_Csrs) (T := F_Csrs) (N := 17) hx hb hts i_Csrs hown hK hP 0 rfl rfl 1 (by decide) (hts _ k_6) (fun _ h9 => h9) rfl d_Csrs_levelBefore_1 ?_
  refine lv_sipush (v := 6144) hx hb d_Csrs_levelBefore_4 rfl ?_
  refine lv_iand hx hb d_Csrs_levelBefore_7 ?_
  refine lv_bipush (v := 11) hx hb d_Csrs_levelBefore_8 rfl ?_
  refine y_ishr hx hb d_Csrs_levelBefore_10 ?_
  exact ri () hx hb hr hlocks hP hD hS d_Csrs_levelBefore_11 (by simp only [sp_Csrs_levelBefore])
def sp_Csrs_dataLevel (x0 : Int32) (q : Nat → Int32) : Int32 :=
  if x0 = 3 then
    if (sp_Csrs_has 131072 q) = 0 then
      x0
    else
      sp_Csrs_levelBefore q
  else
    x0
set_option maxHeartbeats 4000000 in
set_option maxRecDepth 100000 in
theorem c_Csrs_dataLevel {l : Launch} {D : va_G} {g : Nat → Nat} (h : Nat) (x0 : Int32) (q : Nat → Int32)  : CT l D g y_Csrs_dataLevel b_Csrs_dataLevel 2 (some .int) (rD 1) [.ref h, .int x0] (wC h q) ([]) (Qi D (fun (r : Int32) (_ : Unit) => sp_Csrs_dataLevel x0 q = r) (fun _ => wC h q)) := by
  refine CT.of rfl (Nat.le_of_ble_eq_true rfl) (fun p e s m below meth c A ls hx hb hr hml hts hown hlocks hA hP hK hD hF hS hl => ?_)
  have hl : lv_has ls 2 [(0, .ref h), (1, .int x0)] := hl
  refine lv_iload_n hx hb d_Csrs_dataLevel_0 rfl (lv_at hl 1 rfl) ?_
  refine lv_iconst (v := 3) hx hb d_Csrs_dataLevel_1 rfl ?_
  refine lv_icmp_ne (tgt := 21) hx hb d_Csrs_dataLevel_2 (by decide) (fun c_1 => ?_) (fun c_1 => ?_)
  · refine lv_iload_n hx hb d_Csrs_dataLevel_21 rfl (lv_at hl 1 rfl) ?_
    exact ri () hx hb hr hlocks hP hD hS d_Csrs_dataLevel_22 (by simp only [sp_Csrs_dataLevel, if_neg c_1])
  · refine lv_aload_n hx hb d_Csrs_dataLevel_5 rfl (lv_at hl 0 rfl) ?_
    refine lv_ldc (v := 131072) hx hb hown (hts _ k_38) d_Csrs_dataLevel_6 ?_
    refine xi (wr := []) (W2 := fun _ => wC h q) (xV (rest := []) ⟨hx, hb, hml, hown, hts⟩ (c_Csrs_has h 131072 q) mw_Csrs_has mv_Csrs_has k_34 ⟨rfl, rfl, Nat.le_of_ble_eq_true rfl, Nat.le_of_ble_eq_true rfl⟩ hK hP hD hS hA hF [0] [] rfl rfl rfl 0 3 rfl rfl rfl rfl hl.1 rfl (Nat.le_of_ble_eq_true rfl) d_Csrs_dataLevel_8 ⟨Nat.zero_le _, Nat.zero_le _⟩) hP hD hS hA [0] [] [0] rfl rfl rfl (by decide) (fun _ => rfl) rfl (fun r_2 _ H locs h_2 hP hD hS => ?_)
    obtain ⟨h_2, z_2⟩ := h_2
    subst h_2
    refine lv_if_eq (tgt := 21) hx hb d_Csrs_dataLevel_11 (by decide) (fun c_3 => ?_) (fun c_3 => ?_)
    · refine lv_iload_n hx hb d_Csrs_dataLevel_21 rfl (lv_at hl 1 rfl) ?_
      exact ri () hx hb hr hlocks hP hD hS d_Csrs_dataLevel_22 (by simp only [sp_Csrs_dataLevel, if_pos c_1, if_pos c_3])
    · refine lv_aload_n hx hb d_Csrs_dataLevel_14 rfl (lv_at hl 0 rfl) ?_
      refine xi (wr := []) (W2 := fun _ => wC h q) (xV (rest := []) ⟨hx, hb, hml, hown, hts⟩ (c_Csrs_levelBefore h q) mw_Csrs_levelBefore mv_Csrs_levelBefore k_39 ⟨rfl, rfl, Nat.le_of_ble_eq_true rfl, Nat.le_of_ble_eq_true rfl⟩ hK hP hD hS hA hF [0] [] rfl rfl rfl 0 3 rfl rfl rfl rfl hl.1 rfl (Nat.le_of_ble_eq_true rfl) d_Csrs_dataLevel_15 ⟨Nat.zero_le _, Nat.zero_le _⟩) hP hD hS hA [0] [] [0] rfl rfl rfl (by decide) (fun _ => rfl) rfl (fun r_4 _ H locs h_4 hP hD hS => ?_)
      subst h_4
      refine lv_goto (tgt := 22) hx hb d_Csrs_dataLevel_18 (by decide) ?_
      exact ri () hx hb hr hlocks hP hD hS d_Csrs_dataLevel_22 (by simp only [sp_Csrs_dataLevel, if_pos c_1, if_neg c_3])
def sp_Csrs_hasPages  (q : Nat → Int32) : Int32 :=
  if 0 ≤ (q 16) then
    0
  else
    1
set_option maxHeartbeats 4000000 in
set_option maxRecDepth 100000 in
theorem c_Csrs_hasPages {l : Launch} {D : va_G} {g : Nat → Nat} (h : Nat)  (q : Nat → Int32)  : CT l D g y_Csrs_hasPages b_Csrs_hasPages 1 (some .boolean) (rD 0) [.ref h] (wC h q) ([]) (Qi D (fun (r : Int32) (_ : Unit) => sp_Csrs_hasPages q = r ∧ (r = 0 ∨ r = 1)) (fun _ => wC h q)) := by
  refine CT.of rfl (Nat.le_of_ble_eq_true rfl) (fun p e s m below meth c A ls hx hb hr hml hts hown hlocks hA hP hK hD hF hS hl => ?_)
  have hl : lv_has ls 1 [(0, .ref h)] := hl
  refine lv_aload_n hx hb d_Csrs_hasPages_0 rfl (lv_at hl 0 rfl) ?_
  refine va_get (D := D) (ci := 3) (v := .int (q 16)) (C := R_Csrs) (T := F_Csrs) (N := 17) hx hb hts i_Csrs hown hK hP 0 rfl rfl 16 (by decide) (hts _ k_21) (fun _ h9 => h9) rfl d_Csrs_hasPages_1 ?_
  refine lv_if_ge (tgt := 11) hx hb d_Csrs_hasPages_4 (by decide) (fun c_1 => ?_) (fun c_1 => ?_)
  · refine lv_iconst (v := 0) hx hb d_Csrs_hasPages_11 rfl ?_
    exact rz () hx hb hr hlocks rfl hP hD hS d_Csrs_hasPages_12 ⟨by simp only [sp_Csrs_hasPages, if_pos c_1], Or.inl rfl⟩
  · refine lv_iconst (v := 1) hx hb d_Csrs_hasPages_7 rfl ?_
    refine lv_goto (tgt := 12) hx hb d_Csrs_hasPages_8 (by decide) ?_
    exact rz () hx hb hr hlocks rfl hP hD hS d_Csrs_hasPages_12 ⟨by simp only [sp_Csrs_hasPages, if_neg c_1], Or.inr rfl⟩
def sp_Csrs_rootPage  (q : Nat → Int32) : Int32 :=
  (q 16) &&& 4194303
set_option maxHeartbeats 4000000 in
set_option maxRecDepth 100000 in
theorem c_Csrs_rootPage {l : Launch} {D : va_G} {g : Nat → Nat} (h : Nat)  (q : Nat → Int32)  : CT l D g y_Csrs_rootPage b_Csrs_rootPage 1 (some .int) (rD 0) [.ref h] (wC h q) ([]) (Qi D (fun (r : Int32) (_ : Unit) => sp_Csrs_rootPage q = r) (fun _ => wC h q)) := by
  refine CT.of rfl (Nat.le_of_ble_eq_true rfl) (fun p e s m below meth c A ls hx hb hr hml hts hown hlocks hA hP hK hD hF hS hl => ?_)
  have hl : lv_has ls 1 [(0, .ref h)] := hl
  refine lv_aload_n hx hb d_Csrs_rootPage_0 rfl (lv_at hl 0 rfl) ?_
  refine va_get (D := D) (ci := 3) (v := .int (q 16)) (C := R_Csrs) (T := F_Csrs) (N := 17) hx hb hts i_Csrs hown hK hP 0 rfl rfl 16 (by decide) (hts _ k_21) (fun _ h9 => h9) rfl d_Csrs_rootPage_1 ?_
  refine lv_ldc (v := 4194303) hx hb hown (hts _ k_40) d_Csrs_rootPage_4 ?_
  refine lv_iand hx hb d_Csrs_rootPage_6 ?_
  exact ri () hx hb hr hlocks hP hD hS d_Csrs_rootPage_7 (by simp only [sp_Csrs_rootPage])
def sp_Csrs_leaveMachine  (q : Nat → Int32) : Int32 × (Nat → Int32) :=
  if (sp_Csrs_has 128 q) = 0 then
    if (sp_Csrs_levelBefore q) = 3 then
      (sp_Csrs_levelBefore q, (upd q 1 ((((q 1) &&& (-6153)) ||| 128) ||| 0)))
    else
      (sp_Csrs_levelBefore q, (upd q 1 ((((q 1) &&& (-137225)) ||| 128) ||| 0)))
  else
    if (sp_Csrs_levelBefore q) = 3 then
      (sp_Csrs_levelBefore q, (upd q 1 ((((q 1) &&& (-6153)) ||| 128) ||| 8)))
    else
      (sp_Csrs_levelBefore q, (upd q 1 ((((q 1) &&& (-137225)) ||| 128) ||| 8)))
set_option maxHeartbeats 4000000 in
set_option maxRecDepth 100000 in
theorem c_Csrs_leaveMachine {l : Launch} {D : va_G} {g : Nat → Nat} (h : Nat)  (q : Nat → Int32)  : CT l D g y_Csrs_leaveMachine b_Csrs_leaveMachine 4 (some .int) (rD 1) [.ref h] (wC h q) ([]) (Qi D (fun (r : Int32) (u : Nat → Int32) => sp_Csrs_leaveMachine q = (r, u)) (fun u => wC h u)) := by
  refine CT.of rfl (Nat.le_of_ble_eq_true rfl) (fun p e s m below meth c A ls hx hb hr hml hts hown hlocks hA hP hK hD hF hS hl => ?_)
  have hl : lv_has ls 4 [(0, .ref h)] := hl
  refine lv_aload_n hx hb d_Csrs_leaveMachine_0 rfl (lv_at hl 0 rfl) ?_
  refine xi (wr := []) (W2 := fun _ => wC h q) (xV (rest := []) ⟨hx, hb, hml, hown, hts⟩ (c_Csrs_levelBefore h q) mw_Csrs_levelBefore mv_Csrs_levelBefore k_39 ⟨rfl, rfl, Nat.le_of_ble_eq_true rfl, Nat.le_of_ble_eq_true rfl⟩ hK hP hD hS hA hF [0] [] rfl rfl rfl 0 3 rfl rfl rfl rfl hl.1 rfl (Nat.le_of_ble_eq_true rfl) d_Csrs_leaveMachine_1 ⟨Nat.zero_le _, Nat.zero_le _⟩) hP hD hS hA [0] [] [0] rfl rfl rfl (by decide) (fun _ => rfl) rfl (fun r_1 _ H locs h_1 hP hD hS => ?_)
  subst h_1
  refine lv_istore_n (lv' := [(1, .int (sp_Csrs_levelBefore q)), (0, .ref h)]) hx hb d_Csrs_leaveMachine_4 rfl hl (by decide) rfl (fun ls hl => ?_)
  refine lv_aload_n hx hb d_Csrs_leaveMachine_5 rfl (lv_at hl 1 rfl) ?_
  refine lv_sipush (v := 128) hx hb d_Csrs_leaveMachine_6 rfl ?_
  refine xi (wr := []) (W2 := fun _ => wC h q) (xV (rest := []) ⟨hx, hb, hml, hown, hts⟩ (c_Csrs_has h 128 q) mw_Csrs_has mv_Csrs_has k_34 ⟨rfl, rfl, Nat.le_of_ble_eq_true rfl, Nat.le_of_ble_eq_true rfl⟩ hK hP hD hS hA hF [0] [] rfl rfl rfl 0 3 rfl rfl rfl rfl hl.1 rfl (Nat.le_of_ble_eq_true rfl) d_Csrs_leaveMachine_9 ⟨Nat.zero_le _, Nat.zero_le _⟩) hP hD hS hA [0] [] [0] rfl rfl rfl (by decide) (fun _ => rfl) rfl (fun r_2 _ H locs h_2 hP hD hS => ?_)
  obtain ⟨h_2, z_2⟩ := h_2
  subst h_2
  refine lv_if_eq (tgt := 20) hx hb d_Csrs_leaveMachine_12 (by decide) (fun c_3 => ?_) (fun c_3 => ?_)
  · refine lv_iconst (v := 0) hx hb d_Csrs_leaveMachine_20 rfl ?_
    refine lv_istore_n (lv' := [(2, .int 0), (1, .int (sp_Csrs_levelBefore q)), (0, .ref h)]) hx hb d_Csrs_leaveMachine_21 rfl hl (by decide) rfl (fun ls hl => ?_)
    refine lv_iload_n hx hb d_Csrs_leaveMachine_22 rfl (lv_at hl 1 rfl) ?_
    refine lv_iconst (v := 3) hx hb d_Csrs_leaveMachine_23 rfl ?_
    refine lv_icmp_ne (tgt := 33) hx hb d_Csrs_leaveMachine_24 (by decide) (fun c_4 => ?_) (fun c_4 => ?_)
    · refine lv_ldc (v := 137224) hx hb hown (hts _ k_132) d_Csrs_leaveMachine_33 ?_
      refine lv_istore_n (lv' := [(3, .int 137224), (2, .int 0), (1, .int (sp_Csrs_levelBefore q)), (0, .ref h)]) hx hb d_Csrs_leaveMachine_35 rfl hl (by decide) rfl (fun ls hl => ?_)
      refine lv_aload_n hx hb d_Csrs_leaveMachine_36 rfl (lv_at hl 3 rfl) ?_
      refine lv_aload_n hx hb d_Csrs_leaveMachine_37 rfl (lv_at hl 3 rfl) ?_
      refine va_get (D := D) (ci := 3) (v := .int (q 1)) (C := R_Csrs) (T := F_Csrs) (N := 17) hx hb hts i_Csrs hown hK hP 0 rfl rfl 1 (by decide) (hts _ k_6) (fun _ h9 => h9) rfl d_Csrs_leaveMachine_38 ?_
      refine lv_iload_n hx hb d_Csrs_leaveMachine_41 rfl (lv_at hl 0 rfl) ?_
      refine lv_iconst (v := (-1)) hx hb d_Csrs_leaveMachine_42 rfl ?_
      refine lv_ixor hx hb d_Csrs_leaveMachine_43 ?_
      refine W.eq (g2 := F0 m 44 ls [.int (-137225), .int (q 1), .ref h]) rfl ?_
      refine lv_iand hx hb d_Csrs_leaveMachine_44 ?_
      refine lv_sipush (v := 128) hx hb d_Csrs_leaveMachine_45 rfl ?_
      refine lv_ior hx hb d_Csrs_leaveMachine_48 ?_
      refine lv_iload_n hx hb d_Csrs_leaveMachine_49 rfl (lv_at hl 1 rfl) ?_
      refine lv_ior hx hb d_Csrs_leaveMachine_50 ?_
      refine y_put (D := D) (ci := 3) (v := .int ((((q 1) &&& (-137225)) ||| 128) ||| 0)) (ty := .int) (C := R_Csrs) (T := F_Csrs) (N := 17) (ws' := wC h (upd q 1 ((((q 1) &&& (-137225)) ||| 128) ||| 0))) hx hb hts i_Csrs t_Csrs t_Csrs_ok n_Csrs hown hK hP hD hS 0 rfl rfl 1 (by decide) (hts _ k_6) (fun _ h9 => h9) rfl (by decide +kernel) rfl rfl (Nat.le_of_ble_eq_true rfl) d_Csrs_leaveMachine_51 rfl (fun H locs hP hD hS => ?_)
      refine lv_iload_n hx hb d_Csrs_leaveMachine_54 rfl (lv_at hl 2 rfl) ?_
      exact ri (upd q 1 ((((q 1) &&& (-137225)) ||| 128) ||| 0)) hx hb hr hlocks hP hD hS d_Csrs_leaveMachine_55 (by simp only [sp_Csrs_leaveMachine, if_pos c_3, if_neg c_4])
    · refine lv_sipush (v := 6152) hx hb d_Csrs_leaveMachine_27 rfl ?_
      refine lv_goto (tgt := 35) hx hb d_Csrs_leaveMachine_30 (by decide) ?_
      refine lv_istore_n (lv' := [(3, .int 6152), (2, .int 0), (1, .int (sp_Csrs_levelBefore q)), (0, .ref h)]) hx hb d_Csrs_leaveMachine_35 rfl hl (by decide) rfl (fun ls hl => ?_)
      refine lv_aload_n hx hb d_Csrs_leaveMachine_36 rfl (lv_at hl 3 rfl) ?_
      refine lv_aload_n hx hb d_Csrs_leaveMachine_37 rfl (lv_at hl 3 rfl) ?_
      refine va_get (D := D) (ci := 3) (v := .int (q 1)) (C := R_Csrs) (T := F_Csrs) (N := 17) hx hb hts i_Csrs hown hK hP 0 rfl rfl 1 (by decide) (hts _ k_6) (fun _ h9 => h9) rfl d_Csrs_leaveMachine_38 ?_
      refine lv_iload_n hx hb d_Csrs_leaveMachine_41 rfl (lv_at hl 0 rfl) ?_
      refine lv_iconst (v := (-1)) hx hb d_Csrs_leaveMachine_42 rfl ?_
      refine lv_ixor hx hb d_Csrs_leaveMachine_43 ?_
      refine W.eq (g2 := F0 m 44 ls [.int (-6153), .int (q 1), .ref h]) rfl ?_
      refine lv_iand hx hb d_Csrs_leaveMachine_44 ?_
      refine lv_sipush (v := 128) hx hb d_Csrs_leaveMachine_45 rfl ?_
      refine lv_ior hx hb d_Csrs_leaveMachine_48 ?_
      refine lv_iload_n hx hb d_Csrs_leaveMachine_49 rfl (lv_at hl 1 rfl) ?_
      refine lv_ior hx hb d_Csrs_leaveMachine_50 ?_
      refine y_put (D := D) (ci := 3) (v := .int ((((q 1) &&& (-6153)) ||| 128) ||| 0)) (ty := .int) (C := R_Csrs) (T := F_Csrs) (N := 17) (ws' := wC h (upd q 1 ((((q 1) &&& (-6153)) ||| 128) ||| 0))) hx hb hts i_Csrs t_Csrs t_Csrs_ok n_Csrs hown hK hP hD hS 0 rfl rfl 1 (by decide) (hts _ k_6) (fun _ h9 => h9) rfl (by decide +kernel) rfl rfl (Nat.le_of_ble_eq_true rfl) d_Csrs_leaveMachine_51 rfl (fun H locs hP hD hS => ?_)
      refine lv_iload_n hx hb d_Csrs_leaveMachine_54 rfl (lv_at hl 2 rfl) ?_
      exact ri (upd q 1 ((((q 1) &&& (-6153)) ||| 128) ||| 0)) hx hb hr hlocks hP hD hS d_Csrs_leaveMachine_55 (by simp only [sp_Csrs_leaveMachine, if_pos c_3, if_pos c_4])
  · refine lv_bipush (v := 8) hx hb d_Csrs_leaveMachine_15 rfl ?_
    refine lv_goto (tgt := 21) hx hb d_Csrs_leaveMachine_17 (by decide) ?_
    refine lv_istore_n (lv' := [(2, .int 8), (1, .int (sp_Csrs_levelBefore q)), (0, .ref h)]) hx hb d_Csrs_leaveMachine_21 rfl hl (by decide) rfl (fun ls hl => ?_)
    refine lv_iload_n hx hb d_Csrs_leaveMachine_22 rfl (lv_at hl 1 rfl) ?_
    refine lv_iconst (v := 3) hx hb d_Csrs_leaveMachine_23 rfl ?_
    refine lv_icmp_ne (tgt := 33) hx hb d_Csrs_leaveMachine_24 (by decide) (fun c_5 => ?_) (fun c_5 => ?_)
    · refine lv_ldc (v := 137224) hx hb hown (hts _ k_132) d_Csrs_leaveMachine_33 ?_
      refine lv_istore_n (lv' := [(3, .int 137224), (2, .int 8), (1, .int (sp_Csrs_levelBefore q)), (0, .ref h)]) hx hb d_Csrs_leaveMachine_35 rfl hl (by decide) rfl (fun ls hl => ?_)
      refine lv_aload_n hx hb d_Csrs_leaveMachine_36 rfl (lv_at hl 3 rfl) ?_
      refine lv_aload_n hx hb d_Csrs_leaveMachine_37 rfl (lv_at hl 3 rfl) ?_
      refine va_get (D := D) (ci := 3) (v := .int (q 1)) (C := R_Csrs) (T := F_Csrs) (N := 17) hx hb hts i_Csrs hown hK hP 0 rfl rfl 1 (by decide) (hts _ k_6) (fun _ h9 => h9) rfl d_Csrs_leaveMachine_38 ?_
      refine lv_iload_n hx hb d_Csrs_leaveMachine_41 rfl (lv_at hl 0 rfl) ?_
      refine lv_iconst (v := (-1)) hx hb d_Csrs_leaveMachine_42 rfl ?_
      refine lv_ixor hx hb d_Csrs_leaveMachine_43 ?_
      refine W.eq (g2 := F0 m 44 ls [.int (-137225), .int (q 1), .ref h]) rfl ?_
      refine lv_iand hx hb d_Csrs_leaveMachine_44 ?_
      refine lv_sipush (v := 128) hx hb d_Csrs_leaveMachine_45 rfl ?_
      refine lv_ior hx hb d_Csrs_leaveMachine_48 ?_
      refine lv_iload_n hx hb d_Csrs_leaveMachine_49 rfl (lv_at hl 1 rfl) ?_
      refine lv_ior hx hb d_Csrs_leaveMachine_50 ?_
      refine y_put (D := D) (ci := 3) (v := .int ((((q 1) &&& (-137225)) ||| 128) ||| 8)) (ty := .int) (C := R_Csrs) (T := F_Csrs) (N := 17) (ws' := wC h (upd q 1 ((((q 1) &&& (-137225)) ||| 128) ||| 8))) hx hb hts i_Csrs t_Csrs t_Csrs_ok n_Csrs hown hK hP hD hS 0 rfl rfl 1 (by decide) (hts _ k_6) (fun _ h9 => h9) rfl (by decide +kernel) rfl rfl (Nat.le_of_ble_eq_true rfl) d_Csrs_leaveMachine_51 rfl (fun H locs hP hD hS => ?_)
      refine lv_iload_n hx hb d_Csrs_leaveMachine_54 rfl (lv_at hl 2 rfl) ?_
      exact ri (upd q 1 ((((q 1) &&& (-137225)) ||| 128) ||| 8)) hx hb hr hlocks hP hD hS d_Csrs_leaveMachine_55 (by simp only [sp_Csrs_leaveMachine, if_neg c_3, if_neg c_5])
    · refine lv_sipush (v := 6152) hx hb d_Csrs_leaveMachine_27 rfl ?_
      refine lv_goto (tgt := 35) hx hb d_Csrs_leaveMachine_30 (by decide) ?_
      refine lv_istore_n (lv' := [(3, .int 6152), (2, .int 8), (1, .int (sp_Csrs_levelBefore q)), (0, .ref h)]) hx hb d_Csrs_leaveMachine_35 rfl hl (by decide) rfl (fun ls hl => ?_)
      refine lv_aload_n hx hb d_Csrs_leaveMachine_36 rfl (lv_at hl 3 rfl) ?_
      refine lv_aload_n hx hb d_Csrs_leaveMachine_37 rfl (lv_at hl 3 rfl) ?_
      refine va_get (D := D) (ci := 3) (v := .int (q 1)) (C := R_Csrs) (T := F_Csrs) (N := 17) hx hb hts i_Csrs hown hK hP 0 rfl rfl 1 (by decide) (hts _ k_6) (fun _ h9 => h9) rfl d_Csrs_leaveMachine_38 ?_
      refine lv_iload_n hx hb d_Csrs_leaveMachine_41 rfl (lv_at hl 0 rfl) ?_
      refine lv_iconst (v := (-1)) hx hb d_Csrs_leaveMachine_42 rfl ?_
      refine lv_ixor hx hb d_Csrs_leaveMachine_43 ?_
      refine W.eq (g2 := F0 m 44 ls [.int (-6153), .int (q 1), .ref h]) rfl ?_
      refine lv_iand hx hb d_Csrs_leaveMachine_44 ?_
      refine lv_sipush (v := 128) hx hb d_Csrs_leaveMachine_45 rfl ?_
      refine lv_ior hx hb d_Csrs_leaveMachine_48 ?_
      refine lv_iload_n hx hb d_Csrs_leaveMachine_49 rfl (lv_at hl 1 rfl) ?_
      refine lv_ior hx hb d_Csrs_leaveMachine_50 ?_
      refine y_put (D := D) (ci := 3) (v := .int ((((q 1) &&& (-6153)) ||| 128) ||| 8)) (ty := .int) (C := R_Csrs) (T := F_Csrs) (N := 17) (ws' := wC h (upd q 1 ((((q 1) &&& (-6153)) ||| 128) ||| 8))) hx hb hts i_Csrs t_Csrs t_Csrs_ok n_Csrs hown hK hP hD hS 0 rfl rfl 1 (by decide) (hts _ k_6) (fun _ h9 => h9) rfl (by decide +kernel) rfl rfl (Nat.le_of_ble_eq_true rfl) d_Csrs_leaveMachine_51 rfl (fun H locs hP hD hS => ?_)
      refine lv_iload_n hx hb d_Csrs_leaveMachine_54 rfl (lv_at hl 2 rfl) ?_
      exact ri (upd q 1 ((((q 1) &&& (-6153)) ||| 128) ||| 8)) hx hb hr hlocks hP hD hS d_Csrs_leaveMachine_55 (by simp only [sp_Csrs_leaveMachine, if_neg c_3, if_pos c_5])
def sp_Csrs_leaveSupervisor  (q : Nat → Int32) : Int32 × (Nat → Int32) :=
  if (sp_Csrs_has 256 q) = 0 then
    if (sp_Csrs_has 32 q) = 0 then
      (0, (upd q 1 ((((q 1) &&& (-131331)) ||| 32) ||| 0)))
    else
      (0, (upd q 1 ((((q 1) &&& (-131331)) ||| 32) ||| 2)))
  else
    if (sp_Csrs_has 32 q) = 0 then
      (1, (upd q 1 ((((q 1) &&& (-131331)) ||| 32) ||| 0)))
    else
      (1, (upd q 1 ((((q 1) &&& (-131331)) ||| 32) ||| 2)))
set_option maxHeartbeats 4000000 in
set_option maxRecDepth 100000 in
theorem c_Csrs_leaveSupervisor {l : Launch} {D : va_G} {g : Nat → Nat} (h : Nat)  (q : Nat → Int32)  : CT l D g y_Csrs_leaveSupervisor b_Csrs_leaveSupervisor 3 (some .int) (rD 1) [.ref h] (wC h q) ([]) (Qi D (fun (r : Int32) (u : Nat → Int32) => sp_Csrs_leaveSupervisor q = (r, u)) (fun u => wC h u)) := by
  refine CT.of rfl (Nat.le_of_ble_eq_true rfl) (fun p e s m below meth c A ls hx hb hr hml hts hown hlocks hA hP hK hD hF hS hl => ?_)
  have hl : lv_has ls 3 [(0, .ref h)] := hl
  refine lv_aload_n hx hb d_Csrs_leaveSupervisor_0 rfl (lv_at hl 0 rfl) ?_
  refine lv_sipush (v := 256) hx hb d_Csrs_leaveSupervisor_1 rfl ?_
  refine xi (wr := []) (W2 := fun _ => wC h q) (xV (rest := []) ⟨hx, hb, hml, hown, hts⟩ (c_Csrs_has h 256 q) mw_Csrs_has mv_Csrs_has k_34 ⟨rfl, rfl, Nat.le_of_ble_eq_true rfl, Nat.le_of_ble_eq_true rfl⟩ hK hP hD hS hA hF [0] [] rfl rfl rfl 0 3 rfl rfl rfl rfl hl.1 rfl (Nat.le_of_ble_eq_true rfl) d_Csrs_leaveSupervisor_4 ⟨Nat.zero_le _, Nat.zero_le _⟩) hP hD hS hA [0] [] [0] rfl rfl rfl (by decide) (fun _ => rfl) rfl (fun r_1 _ H locs h_1 hP hD hS => ?_)
  obtain ⟨h_1, z_1⟩ := h_1
  subst h_1
  refine lv_if_eq (tgt := 14) hx hb d_Csrs_leaveSupervisor_7 (by decide) (fun c_2 => ?_) (fun c_2 => ?_)
  · refine lv_iconst (v := 0) hx hb d_Csrs_leaveSupervisor_14 rfl ?_
    refine lv_istore_n (lv' := [(1, .int 0), (0, .ref h)]) hx hb d_Csrs_leaveSupervisor_15 rfl hl (by decide) rfl (fun ls hl => ?_)
    refine lv_aload_n hx hb d_Csrs_leaveSupervisor_16 rfl (lv_at hl 1 rfl) ?_
    refine lv_bipush (v := 32) hx hb d_Csrs_leaveSupervisor_17 rfl ?_
    refine xi (wr := []) (W2 := fun _ => wC h q) (xV (rest := []) ⟨hx, hb, hml, hown, hts⟩ (c_Csrs_has h 32 q) mw_Csrs_has mv_Csrs_has k_34 ⟨rfl, rfl, Nat.le_of_ble_eq_true rfl, Nat.le_of_ble_eq_true rfl⟩ hK hP hD hS hA hF [0] [] rfl rfl rfl 0 3 rfl rfl rfl rfl hl.1 rfl (Nat.le_of_ble_eq_true rfl) d_Csrs_leaveSupervisor_19 ⟨Nat.zero_le _, Nat.zero_le _⟩) hP hD hS hA [0] [] [0] rfl rfl rfl (by decide) (fun _ => rfl) rfl (fun r_3 _ H locs h_3 hP hD hS => ?_)
    obtain ⟨h_3, z_3⟩ := h_3
    subst h_3
    refine lv_if_eq (tgt := 29) hx hb d_Csrs_leaveSupervisor_22 (by decide) (fun c_4 => ?_) (fun c_4 => ?_)
    · refine lv_iconst (v := 0) hx hb d_Csrs_leaveSupervisor_29 rfl ?_
      refine lv_istore_n (lv' := [(2, .int 0), (1, .int 0), (0, .ref h)]) hx hb d_Csrs_leaveSupervisor_30 rfl hl (by decide) rfl (fun ls hl => ?_)
      refine lv_aload_n hx hb d_Csrs_leaveSupervisor_31 rfl (lv_at hl 2 rfl) ?_
      refine lv_aload_n hx hb d_Csrs_leaveSupervisor_32 rfl (lv_at hl 2 rfl) ?_
      refine va_get (D := D) (ci := 3) (v := .int (q 1)) (C := R_Csrs) (T := F_Csrs) (N := 17) hx hb hts i_Csrs hown hK hP 0 rfl rfl 1 (by decide) (hts _ k_6) (fun _ h9 => h9) rfl d_Csrs_leaveSupervisor_33 ?_
      refine lv_ldc (v := (-131331)) hx hb hown (hts _ k_134) d_Csrs_leaveSupervisor_36 ?_
      refine lv_iand hx hb d_Csrs_leaveSupervisor_38 ?_
      refine lv_bipush (v := 32) hx hb d_Csrs_leaveSupervisor_39 rfl ?_
      refine lv_ior hx hb d_Csrs_leaveSupervisor_41 ?_
      refine lv_iload_n hx hb d_Csrs_leaveSupervisor_42 rfl (lv_at hl 0 rfl) ?_
      refine lv_ior hx hb d_Csrs_leaveSupervisor_43 ?_
      refine y_put (D := D) (ci := 3) (v := .int ((((q 1) &&& (-131331)) ||| 32) ||| 0)) (ty := .int) (C := R_Csrs) (T := F_Csrs) (N := 17) (ws' := wC h (upd q 1 ((((q 1) &&& (-131331)) ||| 32) ||| 0))) hx hb hts i_Csrs t_Csrs t_Csrs_ok n_Csrs hown hK hP hD hS 0 rfl rfl 1 (by decide) (hts _ k_6) (fun _ h9 => h9) rfl (by decide +kernel) rfl rfl (Nat.le_of_ble_eq_true rfl) d_Csrs_leaveSupervisor_44 rfl (fun H locs hP hD hS => ?_)
      refine lv_iload_n hx hb d_Csrs_leaveSupervisor_47 rfl (lv_at hl 1 rfl) ?_
      exact ri (upd q 1 ((((q 1) &&& (-131331)) ||| 32) ||| 0)) hx hb hr hlocks hP hD hS d_Csrs_leaveSupervisor_48 (by simp only [sp_Csrs_leaveSupervisor, if_pos c_2, if_pos c_4])
    · refine lv_iconst (v := 2) hx hb d_Csrs_leaveSupervisor_25 rfl ?_
      refine lv_goto (tgt := 30) hx hb d_Csrs_leaveSupervisor_26 (by decide) ?_
      refine lv_istore_n (lv' := [(2, .int 2), (1, .int 0), (0, .ref h)]) hx hb d_Csrs_leaveSupervisor_30 rfl hl (by decide) rfl (fun ls hl => ?_)
      refine lv_aload_n hx hb d_Csrs_leaveSupervisor_31 rfl (lv_at hl 2 rfl) ?_
      refine lv_aload_n hx hb d_Csrs_leaveSupervisor_32 rfl (lv_at hl 2 rfl) ?_
      refine va_get (D := D) (ci := 3) (v := .int (q 1)) (C := R_Csrs) (T := F_Csrs) (N := 17) hx hb hts i_Csrs hown hK hP 0 rfl rfl 1 (by decide) (hts _ k_6) (fun _ h9 => h9) rfl d_Csrs_leaveSupervisor_33 ?_
      refine lv_ldc (v := (-131331)) hx hb hown (hts _ k_134) d_Csrs_leaveSupervisor_36 ?_
      refine lv_iand hx hb d_Csrs_leaveSupervisor_38 ?_
      refine lv_bipush (v := 32) hx hb d_Csrs_leaveSupervisor_39 rfl ?_
      refine lv_ior hx hb d_Csrs_leaveSupervisor_41 ?_
      refine lv_iload_n hx hb d_Csrs_leaveSupervisor_42 rfl (lv_at hl 0 rfl) ?_
      refine lv_ior hx hb d_Csrs_leaveSupervisor_43 ?_
      refine y_put (D := D) (ci := 3) (v := .int ((((q 1) &&& (-131331)) ||| 32) ||| 2)) (ty := .int) (C := R_Csrs) (T := F_Csrs) (N := 17) (ws' := wC h (upd q 1 ((((q 1) &&& (-131331)) ||| 32) ||| 2))) hx hb hts i_Csrs t_Csrs t_Csrs_ok n_Csrs hown hK hP hD hS 0 rfl rfl 1 (by decide) (hts _ k_6) (fun _ h9 => h9) rfl (by decide +kernel) rfl rfl (Nat.le_of_ble_eq_true rfl) d_Csrs_leaveSupervisor_44 rfl (fun H locs hP hD hS => ?_)
      refine lv_iload_n hx hb d_Csrs_leaveSupervisor_47 rfl (lv_at hl 1 rfl) ?_
      exact ri (upd q 1 ((((q 1) &&& (-131331)) ||| 32) ||| 2)) hx hb hr hlocks hP hD hS d_Csrs_leaveSupervisor_48 (by simp only [sp_Csrs_leaveSupervisor, if_pos c_2, if_neg c_4])
  · refine lv_iconst (v := 1) hx hb d_Csrs_leaveSupervisor_10 rfl ?_
    refine lv_goto (tgt := 15) hx hb d_Csrs_leaveSupervisor_11 (by decide) ?_
    refine lv_istore_n (lv' := [(1, .int 1), (0, .ref h)]) hx hb d_Csrs_leaveSupervisor_15 rfl hl (by decide) rfl (fun ls hl => ?_)
    refine lv_aload_n hx hb d_Csrs_leaveSupervisor_16 rfl (lv_at hl 1 rfl) ?_
    refine lv_bipush (v := 32) hx hb d_Csrs_leaveSupervisor_17 rfl ?_
    refine xi (wr := []) (W2 := fun _ => wC h q) (xV (rest := []) ⟨hx, hb, hml, hown, hts⟩ (c_Csrs_has h 32 q) mw_Csrs_has mv_Csrs_has k_34 ⟨rfl, rfl, Nat.le_of_ble_eq_true rfl, Nat.le_of_ble_eq_true rfl⟩ hK hP hD hS hA hF [0] [] rfl rfl rfl 0 3 rfl rfl rfl rfl hl.1 rfl (Nat.le_of_ble_eq_true rfl) d_Csrs_leaveSupervisor_19 ⟨Nat.zero_le _, Nat.zero_le _⟩) hP hD hS hA [0] [] [0] rfl rfl rfl (by decide) (fun _ => rfl) rfl (fun r_5 _ H locs h_5 hP hD hS => ?_)
    obtain ⟨h_5, z_5⟩ := h_5
    subst h_5
    refine lv_if_eq (tgt := 29) hx hb d_Csrs_leaveSupervisor_22 (by decide) (fun c_6 => ?_) (fun c_6 => ?_)
    · refine lv_iconst (v := 0) hx hb d_Csrs_leaveSupervisor_29 rfl ?_
      refine lv_istore_n (lv' := [(2, .int 0), (1, .int 1), (0, .ref h)]) hx hb d_Csrs_leaveSupervisor_30 rfl hl (by decide) rfl (fun ls hl => ?_)
      refine lv_aload_n hx hb d_Csrs_leaveSupervisor_31 rfl (lv_at hl 2 rfl) ?_
      refine lv_aload_n hx hb d_Csrs_leaveSupervisor_32 rfl (lv_at hl 2 rfl) ?_
      refine va_get (D := D) (ci := 3) (v := .int (q 1)) (C := R_Csrs) (T := F_Csrs) (N := 17) hx hb hts i_Csrs hown hK hP 0 rfl rfl 1 (by decide) (hts _ k_6) (fun _ h9 => h9) rfl d_Csrs_leaveSupervisor_33 ?_
      refine lv_ldc (v := (-131331)) hx hb hown (hts _ k_134) d_Csrs_leaveSupervisor_36 ?_
      refine lv_iand hx hb d_Csrs_leaveSupervisor_38 ?_
      refine lv_bipush (v := 32) hx hb d_Csrs_leaveSupervisor_39 rfl ?_
      refine lv_ior hx hb d_Csrs_leaveSupervisor_41 ?_
      refine lv_iload_n hx hb d_Csrs_leaveSupervisor_42 rfl (lv_at hl 0 rfl) ?_
      refine lv_ior hx hb d_Csrs_leaveSupervisor_43 ?_
      refine y_put (D := D) (ci := 3) (v := .int ((((q 1) &&& (-131331)) ||| 32) ||| 0)) (ty := .int) (C := R_Csrs) (T := F_Csrs) (N := 17) (ws' := wC h (upd q 1 ((((q 1) &&& (-131331)) ||| 32) ||| 0))) hx hb hts i_Csrs t_Csrs t_Csrs_ok n_Csrs hown hK hP hD hS 0 rfl rfl 1 (by decide) (hts _ k_6) (fun _ h9 => h9) rfl (by decide +kernel) rfl rfl (Nat.le_of_ble_eq_true rfl) d_Csrs_leaveSupervisor_44 rfl (fun H locs hP hD hS => ?_)
      refine lv_iload_n hx hb d_Csrs_leaveSupervisor_47 rfl (lv_at hl 1 rfl) ?_
      exact ri (upd q 1 ((((q 1) &&& (-131331)) ||| 32) ||| 0)) hx hb hr hlocks hP hD hS d_Csrs_leaveSupervisor_48 (by simp only [sp_Csrs_leaveSupervisor, if_neg c_2, if_pos c_6])
    · refine lv_iconst (v := 2) hx hb d_Csrs_leaveSupervisor_25 rfl ?_
      refine lv_goto (tgt := 30) hx hb d_Csrs_leaveSupervisor_26 (by decide) ?_
      refine lv_istore_n (lv' := [(2, .int 2), (1, .int 1), (0, .ref h)]) hx hb d_Csrs_leaveSupervisor_30 rfl hl (by decide) rfl (fun ls hl => ?_)
      refine lv_aload_n hx hb d_Csrs_leaveSupervisor_31 rfl (lv_at hl 2 rfl) ?_
      refine lv_aload_n hx hb d_Csrs_leaveSupervisor_32 rfl (lv_at hl 2 rfl) ?_
      refine va_get (D := D) (ci := 3) (v := .int (q 1)) (C := R_Csrs) (T := F_Csrs) (N := 17) hx hb hts i_Csrs hown hK hP 0 rfl rfl 1 (by decide) (hts _ k_6) (fun _ h9 => h9) rfl d_Csrs_leaveSupervisor_33 ?_
      refine lv_ldc (v := (-131331)) hx hb hown (hts _ k_134) d_Csrs_leaveSupervisor_36 ?_
      refine lv_iand hx hb d_Csrs_leaveSupervisor_38 ?_
      refine lv_bipush (v := 32) hx hb d_Csrs_leaveSupervisor_39 rfl ?_
      refine lv_ior hx hb d_Csrs_leaveSupervisor_41 ?_
      refine lv_iload_n hx hb d_Csrs_leaveSupervisor_42 rfl (lv_at hl 0 rfl) ?_
      refine lv_ior hx hb d_Csrs_leaveSupervisor_43 ?_
      refine y_put (D := D) (ci := 3) (v := .int ((((q 1) &&& (-131331)) ||| 32) ||| 2)) (ty := .int) (C := R_Csrs) (T := F_Csrs) (N := 17) (ws' := wC h (upd q 1 ((((q 1) &&& (-131331)) ||| 32) ||| 2))) hx hb hts i_Csrs t_Csrs t_Csrs_ok n_Csrs hown hK hP hD hS 0 rfl rfl 1 (by decide) (hts _ k_6) (fun _ h9 => h9) rfl (by decide +kernel) rfl rfl (Nat.le_of_ble_eq_true rfl) d_Csrs_leaveSupervisor_44 rfl (fun H locs hP hD hS => ?_)
      refine lv_iload_n hx hb d_Csrs_leaveSupervisor_47 rfl (lv_at hl 1 rfl) ?_
      exact ri (upd q 1 ((((q 1) &&& (-131331)) ||| 32) ||| 2)) hx hb hr hlocks hP hD hS d_Csrs_leaveSupervisor_48 (by simp only [sp_Csrs_leaveSupervisor, if_neg c_2, if_neg c_6])
def sp_Csrs_isTold (x0 : Int32)  : Int32 :=
  if x0 = 256 then
    1
  else
    if x0 = 260 then
      1
    else
      if x0 = 261 then
        1
      else
        if x0 = 320 then
          1
        else
          if x0 = 321 then
            1
          else
            if x0 = 322 then
              1
            else
              if x0 = 323 then
                1
              else
                if x0 = 324 then
                  1
                else
                  if x0 = 384 then
                    1
                  else
                    if x0 = 768 then
                      1
                    else
                      if x0 = 769 then
                        1
                      else
                        if x0 = 770 then
                          1
                        else
                          if x0 = 771 then
                            1
                          else
                            if x0 = 772 then
                              1
                            else
                              if x0 = 773 then
                                1
                              else
                                if x0 = 832 then
                                  1
                                else
                                  if x0 = 833 then
                                    1
                                  else
                                    if x0 = 834 then
                                      1
                                    else
                                      if x0 = 835 then
                                        1
                                      else
                                        if x0 = 836 then
                                          1
                                        else
                                          if x0 = 3857 then
                                            1
                                          else
                                            if x0 = 3858 then
                                              1
                                            else
                                              if x0 = 3859 then
                                                1
                                              else
                                                if x0 = 3860 then
                                                  1
                                                else
                                                  0
set_option maxHeartbeats 4000000 in
set_option maxRecDepth 100000 in
theorem c_Csrs_isTold {l : Launch} {D : va_G} {g : Nat → Nat}  (x0 : Int32)   : CT l D g y_Csrs_isTold b_Csrs_isTold 1 (some .boolean) (rD 0) [.int x0] ([]) ([]) (Qi D (fun (r : Int32) (_ : Unit) => sp_Csrs_isTold x0 = r ∧ (r = 0 ∨ r = 1)) (fun _ => [])) := by
  refine CT.of rfl (Nat.le_of_ble_eq_true rfl) (fun p e s m below meth c A ls hx hb hr hml hts hown hlocks hA hP hK hD hF hS hl => ?_)
  have hl : lv_has ls 1 [(0, .int x0)] := hl
  refine lv_iload_n hx hb d_Csrs_isTold_0 rfl (lv_at hl 0 rfl) ?_
  by_cases c_1 : x0 = 256
  · refine lv_lookup (off := 203) (tgt := 204) hx hb d_Csrs_isTold_1 rfl (by rw [c_1]; rfl) (by decide) ?_
    refine lv_iconst (v := 1) hx hb d_Csrs_isTold_204 rfl ?_
    exact rz () hx hb hr hlocks rfl hP hD hS d_Csrs_isTold_205 ⟨by simp only [sp_Csrs_isTold, if_pos c_1], Or.inr rfl⟩
  · by_cases c_2 : x0 = 260
    · refine lv_lookup (off := 203) (tgt := 204) hx hb d_Csrs_isTold_1 rfl (by rw [c_2]; rfl) (by decide) ?_
      refine lv_iconst (v := 1) hx hb d_Csrs_isTold_204 rfl ?_
      exact rz () hx hb hr hlocks rfl hP hD hS d_Csrs_isTold_205 ⟨by simp only [sp_Csrs_isTold, if_neg c_1, if_pos c_2], Or.inr rfl⟩
    · by_cases c_3 : x0 = 261
      · refine lv_lookup (off := 203) (tgt := 204) hx hb d_Csrs_isTold_1 rfl (by rw [c_3]; rfl) (by decide) ?_
        refine lv_iconst (v := 1) hx hb d_Csrs_isTold_204 rfl ?_
        exact rz () hx hb hr hlocks rfl hP hD hS d_Csrs_isTold_205 ⟨by simp only [sp_Csrs_isTold, if_neg c_1, if_neg c_2, if_pos c_3], Or.inr rfl⟩
      · by_cases c_4 : x0 = 320
        · refine lv_lookup (off := 203) (tgt := 204) hx hb d_Csrs_isTold_1 rfl (by rw [c_4]; rfl) (by decide) ?_
          refine lv_iconst (v := 1) hx hb d_Csrs_isTold_204 rfl ?_
          exact rz () hx hb hr hlocks rfl hP hD hS d_Csrs_isTold_205 ⟨by simp only [sp_Csrs_isTold, if_neg c_1, if_neg c_2, if_neg c_3, if_pos c_4], Or.inr rfl⟩
        · by_cases c_5 : x0 = 321
          · refine lv_lookup (off := 203) (tgt := 204) hx hb d_Csrs_isTold_1 rfl (by rw [c_5]; rfl) (by decide) ?_
            refine lv_iconst (v := 1) hx hb d_Csrs_isTold_204 rfl ?_
            exact rz () hx hb hr hlocks rfl hP hD hS d_Csrs_isTold_205 ⟨by simp only [sp_Csrs_isTold, if_neg c_1, if_neg c_2, if_neg c_3, if_neg c_4, if_pos c_5], Or.inr rfl⟩
          · by_cases c_6 : x0 = 322
            · refine lv_lookup (off := 203) (tgt := 204) hx hb d_Csrs_isTold_1 rfl (by rw [c_6]; rfl) (by decide) ?_
              refine lv_iconst (v := 1) hx hb d_Csrs_isTold_204 rfl ?_
              exact rz () hx hb hr hlocks rfl hP hD hS d_Csrs_isTold_205 ⟨by simp only [sp_Csrs_isTold, if_neg c_1, if_neg c_2, if_neg c_3, if_neg c_4, if_neg c_5, if_pos c_6], Or.inr rfl⟩
            · by_cases c_7 : x0 = 323
              · refine lv_lookup (off := 203) (tgt := 204) hx hb d_Csrs_isTold_1 rfl (by rw [c_7]; rfl) (by decide) ?_
                refine lv_iconst (v := 1) hx hb d_Csrs_isTold_204 rfl ?_
                exact rz () hx hb hr hlocks rfl hP hD hS d_Csrs_isTold_205 ⟨by simp only [sp_Csrs_isTold, if_neg c_1, if_neg c_2, if_neg c_3, if_neg c_4, if_neg c_5, if_neg c_6, if_pos c_7], Or.inr rfl⟩
              · by_cases c_8 : x0 = 324
                · refine lv_lookup (off := 203) (tgt := 204) hx hb d_Csrs_isTold_1 rfl (by rw [c_8]; rfl) (by decide) ?_
                  refine lv_iconst (v := 1) hx hb d_Csrs_isTold_204 rfl ?_
                  exact rz () hx hb hr hlocks rfl hP hD hS d_Csrs_isTold_205 ⟨by simp only [sp_Csrs_isTold, if_neg c_1, if_neg c_2, if_neg c_3, if_neg c_4, if_neg c_5, if_neg c_6, if_neg c_7, if_pos c_8], Or.inr rfl⟩
                · by_cases c_9 : x0 = 384
                  · refine lv_lookup (off := 203) (tgt := 204) hx hb d_Csrs_isTold_1 rfl (by rw [c_9]; rfl) (by decide) ?_
                    refine lv_iconst (v := 1) hx hb d_Csrs_isTold_204 rfl ?_
                    exact rz () hx hb hr hlocks rfl hP hD hS d_Csrs_isTold_205 ⟨by simp only [sp_Csrs_isTold, if_neg c_1, if_neg c_2, if_neg c_3, if_neg c_4, if_neg c_5, if_neg c_6, if_neg c_7, if_neg c_8, if_pos c_9], Or.inr rfl⟩
                  · by_cases c_10 : x0 = 768
                    · refine lv_lookup (off := 203) (tgt := 204) hx hb d_Csrs_isTold_1 rfl (by rw [c_10]; rfl) (by decide) ?_
                      refine lv_iconst (v := 1) hx hb d_Csrs_isTold_204 rfl ?_
                      exact rz () hx hb hr hlocks rfl hP hD hS d_Csrs_isTold_205 ⟨by simp only [sp_Csrs_isTold, if_neg c_1, if_neg c_2, if_neg c_3, if_neg c_4, if_neg c_5, if_neg c_6, if_neg c_7, if_neg c_8, if_neg c_9, if_pos c_10], Or.inr rfl⟩
                    · by_cases c_11 : x0 = 769
                      · refine lv_lookup (off := 203) (tgt := 204) hx hb d_Csrs_isTold_1 rfl (by rw [c_11]; rfl) (by decide) ?_
                        refine lv_iconst (v := 1) hx hb d_Csrs_isTold_204 rfl ?_
                        exact rz () hx hb hr hlocks rfl hP hD hS d_Csrs_isTold_205 ⟨by simp only [sp_Csrs_isTold, if_neg c_1, if_neg c_2, if_neg c_3, if_neg c_4, if_neg c_5, if_neg c_6, if_neg c_7, if_neg c_8, if_neg c_9, if_neg c_10, if_pos c_11], Or.inr rfl⟩
                      · by_cases c_12 : x0 = 770
                        · refine lv_lookup (off := 203) (tgt := 204) hx hb d_Csrs_isTold_1 rfl (by rw [c_12]; rfl) (by decide) ?_
                          refine lv_iconst (v := 1) hx hb d_Csrs_isTold_204 rfl ?_
                          exact rz () hx hb hr hlocks rfl hP hD hS d_Csrs_isTold_205 ⟨by simp only [sp_Csrs_isTold, if_neg c_1, if_neg c_2, if_neg c_3, if_neg c_4, if_neg c_5, if_neg c_6, if_neg c_7, if_neg c_8, if_neg c_9, if_neg c_10, if_neg c_11, if_pos c_12], Or.inr rfl⟩
                        · by_cases c_13 : x0 = 771
                          · refine lv_lookup (off := 203) (tgt := 204) hx hb d_Csrs_isTold_1 rfl (by rw [c_13]; rfl) (by decide) ?_
                            refine lv_iconst (v := 1) hx hb d_Csrs_isTold_204 rfl ?_
                            exact rz () hx hb hr hlocks rfl hP hD hS d_Csrs_isTold_205 ⟨by simp only [sp_Csrs_isTold, if_neg c_1, if_neg c_2, if_neg c_3, if_neg c_4, if_neg c_5, if_neg c_6, if_neg c_7, if_neg c_8, if_neg c_9, if_neg c_10, if_neg c_11, if_neg c_12, if_pos c_13], Or.inr rfl⟩
                          · by_cases c_14 : x0 = 772
                            · refine lv_lookup (off := 203) (tgt := 204) hx hb d_Csrs_isTold_1 rfl (by rw [c_14]; rfl) (by decide) ?_
                              refine lv_iconst (v := 1) hx hb d_Csrs_isTold_204 rfl ?_
                              exact rz () hx hb hr hlocks rfl hP hD hS d_Csrs_isTold_205 ⟨by simp only [sp_Csrs_isTold, if_neg c_1, if_neg c_2, if_neg c_3, if_neg c_4, if_neg c_5, if_neg c_6, if_neg c_7, if_neg c_8, if_neg c_9, if_neg c_10, if_neg c_11, if_neg c_12, if_neg c_13, if_pos c_14], Or.inr rfl⟩
                            · by_cases c_15 : x0 = 773
                              · refine lv_lookup (off := 203) (tgt := 204) hx hb d_Csrs_isTold_1 rfl (by rw [c_15]; rfl) (by decide) ?_
                                refine lv_iconst (v := 1) hx hb d_Csrs_isTold_204 rfl ?_
                                exact rz () hx hb hr hlocks rfl hP hD hS d_Csrs_isTold_205 ⟨by simp only [sp_Csrs_isTold, if_neg c_1, if_neg c_2, if_neg c_3, if_neg c_4, if_neg c_5, if_neg c_6, if_neg c_7, if_neg c_8, if_neg c_9, if_neg c_10, if_neg c_11, if_neg c_12, if_neg c_13, if_neg c_14, if_pos c_15], Or.inr rfl⟩
                              · by_cases c_16 : x0 = 832
                                · refine lv_lookup (off := 203) (tgt := 204) hx hb d_Csrs_isTold_1 rfl (by rw [c_16]; rfl) (by decide) ?_
                                  refine lv_iconst (v := 1) hx hb d_Csrs_isTold_204 rfl ?_
                                  exact rz () hx hb hr hlocks rfl hP hD hS d_Csrs_isTold_205 ⟨by simp only [sp_Csrs_isTold, if_neg c_1, if_neg c_2, if_neg c_3, if_neg c_4, if_neg c_5, if_neg c_6, if_neg c_7, if_neg c_8, if_neg c_9, if_neg c_10, if_neg c_11, if_neg c_12, if_neg c_13, if_neg c_14, if_neg c_15, if_pos c_16], Or.inr rfl⟩
                                · by_cases c_17 : x0 = 833
                                  · refine lv_lookup (off := 203) (tgt := 204) hx hb d_Csrs_isTold_1 rfl (by rw [c_17]; rfl) (by decide) ?_
                                    refine lv_iconst (v := 1) hx hb d_Csrs_isTold_204 rfl ?_
                                    exact rz () hx hb hr hlocks rfl hP hD hS d_Csrs_isTold_205 ⟨by simp only [sp_Csrs_isTold, if_neg c_1, if_neg c_2, if_neg c_3, if_neg c_4, if_neg c_5, if_neg c_6, if_neg c_7, if_neg c_8, if_neg c_9, if_neg c_10, if_neg c_11, if_neg c_12, if_neg c_13, if_neg c_14, if_neg c_15, if_neg c_16, if_pos c_17], Or.inr rfl⟩
                                  · by_cases c_18 : x0 = 834
                                    · refine lv_lookup (off := 203) (tgt := 204) hx hb d_Csrs_isTold_1 rfl (by rw [c_18]; rfl) (by decide) ?_
                                      refine lv_iconst (v := 1) hx hb d_Csrs_isTold_204 rfl ?_
                                      exact rz () hx hb hr hlocks rfl hP hD hS d_Csrs_isTold_205 ⟨by simp only [sp_Csrs_isTold, if_neg c_1, if_neg c_2, if_neg c_3, if_neg c_4, if_neg c_5, if_neg c_6, if_neg c_7, if_neg c_8, if_neg c_9, if_neg c_10, if_neg c_11, if_neg c_12, if_neg c_13, if_neg c_14, if_neg c_15, if_neg c_16, if_neg c_17, if_pos c_18], Or.inr rfl⟩
                                    · by_cases c_19 : x0 = 835
                                      · refine lv_lookup (off := 203) (tgt := 204) hx hb d_Csrs_isTold_1 rfl (by rw [c_19]; rfl) (by decide) ?_
                                        refine lv_iconst (v := 1) hx hb d_Csrs_isTold_204 rfl ?_
                                        exact rz () hx hb hr hlocks rfl hP hD hS d_Csrs_isTold_205 ⟨by simp only [sp_Csrs_isTold, if_neg c_1, if_neg c_2, if_neg c_3, if_neg c_4, if_neg c_5, if_neg c_6, if_neg c_7, if_neg c_8, if_neg c_9, if_neg c_10, if_neg c_11, if_neg c_12, if_neg c_13, if_neg c_14, if_neg c_15, if_neg c_16, if_neg c_17, if_neg c_18, if_pos c_19], Or.inr rfl⟩
                                      · by_cases c_20 : x0 = 836
                                        · refine lv_lookup (off := 203) (tgt := 204) hx hb d_Csrs_isTold_1 rfl (by rw [c_20]; rfl) (by decide) ?_
                                          refine lv_iconst (v := 1) hx hb d_Csrs_isTold_204 rfl ?_
                                          exact rz () hx hb hr hlocks rfl hP hD hS d_Csrs_isTold_205 ⟨by simp only [sp_Csrs_isTold, if_neg c_1, if_neg c_2, if_neg c_3, if_neg c_4, if_neg c_5, if_neg c_6, if_neg c_7, if_neg c_8, if_neg c_9, if_neg c_10, if_neg c_11, if_neg c_12, if_neg c_13, if_neg c_14, if_neg c_15, if_neg c_16, if_neg c_17, if_neg c_18, if_neg c_19, if_pos c_20], Or.inr rfl⟩
                                        · by_cases c_21 : x0 = 3857
                                          · refine lv_lookup (off := 203) (tgt := 204) hx hb d_Csrs_isTold_1 rfl (by rw [c_21]; rfl) (by decide) ?_
                                            refine lv_iconst (v := 1) hx hb d_Csrs_isTold_204 rfl ?_
                                            exact rz () hx hb hr hlocks rfl hP hD hS d_Csrs_isTold_205 ⟨by simp only [sp_Csrs_isTold, if_neg c_1, if_neg c_2, if_neg c_3, if_neg c_4, if_neg c_5, if_neg c_6, if_neg c_7, if_neg c_8, if_neg c_9, if_neg c_10, if_neg c_11, if_neg c_12, if_neg c_13, if_neg c_14, if_neg c_15, if_neg c_16, if_neg c_17, if_neg c_18, if_neg c_19, if_neg c_20, if_pos c_21], Or.inr rfl⟩
                                          · by_cases c_22 : x0 = 3858
                                            · refine lv_lookup (off := 203) (tgt := 204) hx hb d_Csrs_isTold_1 rfl (by rw [c_22]; rfl) (by decide) ?_
                                              refine lv_iconst (v := 1) hx hb d_Csrs_isTold_204 rfl ?_
                                              exact rz () hx hb hr hlocks rfl hP hD hS d_Csrs_isTold_205 ⟨by simp only [sp_Csrs_isTold, if_neg c_1, if_neg c_2, if_neg c_3, if_neg c_4, if_neg c_5, if_neg c_6, if_neg c_7, if_neg c_8, if_neg c_9, if_neg c_10, if_neg c_11, if_neg c_12, if_neg c_13, if_neg c_14, if_neg c_15, if_neg c_16, if_neg c_17, if_neg c_18, if_neg c_19, if_neg c_20, if_neg c_21, if_pos c_22], Or.inr rfl⟩
                                            · by_cases c_23 : x0 = 3859
                                              · refine lv_lookup (off := 203) (tgt := 204) hx hb d_Csrs_isTold_1 rfl (by rw [c_23]; rfl) (by decide) ?_
                                                refine lv_iconst (v := 1) hx hb d_Csrs_isTold_204 rfl ?_
                                                exact rz () hx hb hr hlocks rfl hP hD hS d_Csrs_isTold_205 ⟨by simp only [sp_Csrs_isTold, if_neg c_1, if_neg c_2, if_neg c_3, if_neg c_4, if_neg c_5, if_neg c_6, if_neg c_7, if_neg c_8, if_neg c_9, if_neg c_10, if_neg c_11, if_neg c_12, if_neg c_13, if_neg c_14, if_neg c_15, if_neg c_16, if_neg c_17, if_neg c_18, if_neg c_19, if_neg c_20, if_neg c_21, if_neg c_22, if_pos c_23], Or.inr rfl⟩
                                              · by_cases c_24 : x0 = 3860
                                                · refine lv_lookup (off := 203) (tgt := 204) hx hb d_Csrs_isTold_1 rfl (by rw [c_24]; rfl) (by decide) ?_
                                                  refine lv_iconst (v := 1) hx hb d_Csrs_isTold_204 rfl ?_
                                                  exact rz () hx hb hr hlocks rfl hP hD hS d_Csrs_isTold_205 ⟨by simp only [sp_Csrs_isTold, if_neg c_1, if_neg c_2, if_neg c_3, if_neg c_4, if_neg c_5, if_neg c_6, if_neg c_7, if_neg c_8, if_neg c_9, if_neg c_10, if_neg c_11, if_neg c_12, if_neg c_13, if_neg c_14, if_neg c_15, if_neg c_16, if_neg c_17, if_neg c_18, if_neg c_19, if_neg c_20, if_neg c_21, if_neg c_22, if_neg c_23, if_pos c_24], Or.inr rfl⟩
                                                · refine lv_lookup (off := 205) (tgt := 206) hx hb d_Csrs_isTold_1 rfl ((lv_osw (a := 256) c_1 rfl).trans ((lv_osw (a := 260) c_2 rfl).trans ((lv_osw (a := 261) c_3 rfl).trans ((lv_osw (a := 320) c_4 rfl).trans ((lv_osw (a := 321) c_5 rfl).trans ((lv_osw (a := 322) c_6 rfl).trans ((lv_osw (a := 323) c_7 rfl).trans ((lv_osw (a := 324) c_8 rfl).trans ((lv_osw (a := 384) c_9 rfl).trans ((lv_osw (a := 768) c_10 rfl).trans ((lv_osw (a := 769) c_11 rfl).trans ((lv_osw (a := 770) c_12 rfl).trans ((lv_osw (a := 771) c_13 rfl).trans ((lv_osw (a := 772) c_14 rfl).trans ((lv_osw (a := 773) c_15 rfl).trans ((lv_osw (a := 832) c_16 rfl).trans ((lv_osw (a := 833) c_17 rfl).trans ((lv_osw (a := 834) c_18 rfl).trans ((lv_osw (a := 835) c_19 rfl).trans ((lv_osw (a := 836) c_20 rfl).trans ((lv_osw (a := 3857) c_21 rfl).trans ((lv_osw (a := 3858) c_22 rfl).trans ((lv_osw (a := 3859) c_23 rfl).trans ((lv_osw (a := 3860) c_24 rfl).trans (rfl))))))))))))))))))))))))) (by decide) ?_
                                                  refine lv_iconst (v := 0) hx hb d_Csrs_isTold_206 rfl ?_
                                                  exact rz () hx hb hr hlocks rfl hP hD hS d_Csrs_isTold_207 ⟨by simp only [sp_Csrs_isTold, if_neg c_1, if_neg c_2, if_neg c_3, if_neg c_4, if_neg c_5, if_neg c_6, if_neg c_7, if_neg c_8, if_neg c_9, if_neg c_10, if_neg c_11, if_neg c_12, if_neg c_13, if_neg c_14, if_neg c_15, if_neg c_16, if_neg c_17, if_neg c_18, if_neg c_19, if_neg c_20, if_neg c_21, if_neg c_22, if_neg c_23, if_neg c_24], Or.inl rfl⟩
def sp_Csrs_isReadOnly (x0 : Int32)  : Int32 :=
  if (x0 &&& 3072) = 3072 then
    1
  else
    0
set_option maxHeartbeats 4000000 in
set_option maxRecDepth 100000 in
theorem c_Csrs_isReadOnly {l : Launch} {D : va_G} {g : Nat → Nat}  (x0 : Int32)   : CT l D g y_Csrs_isReadOnly b_Csrs_isReadOnly 1 (some .boolean) (rD 0) [.int x0] ([]) ([]) (Qi D (fun (r : Int32) (_ : Unit) => sp_Csrs_isReadOnly x0 = r ∧ (r = 0 ∨ r = 1)) (fun _ => [])) := by
  refine CT.of rfl (Nat.le_of_ble_eq_true rfl) (fun p e s m below meth c A ls hx hb hr hml hts hown hlocks hA hP hK hD hF hS hl => ?_)
  have hl : lv_has ls 1 [(0, .int x0)] := hl
  refine lv_iload_n hx hb d_Csrs_isReadOnly_0 rfl (lv_at hl 0 rfl) ?_
  refine lv_sipush (v := 3072) hx hb d_Csrs_isReadOnly_1 rfl ?_
  refine lv_iand hx hb d_Csrs_isReadOnly_4 ?_
  refine lv_sipush (v := 3072) hx hb d_Csrs_isReadOnly_5 rfl ?_
  refine lv_icmp_ne (tgt := 15) hx hb d_Csrs_isReadOnly_8 (by decide) (fun c_1 => ?_) (fun c_1 => ?_)
  · refine lv_iconst (v := 0) hx hb d_Csrs_isReadOnly_15 rfl ?_
    exact rz () hx hb hr hlocks rfl hP hD hS d_Csrs_isReadOnly_16 ⟨by simp only [sp_Csrs_isReadOnly, if_neg c_1], Or.inl rfl⟩
  · refine lv_iconst (v := 1) hx hb d_Csrs_isReadOnly_11 rfl ?_
    refine lv_goto (tgt := 16) hx hb d_Csrs_isReadOnly_12 (by decide) ?_
    exact rz () hx hb hr hlocks rfl hP hD hS d_Csrs_isReadOnly_16 ⟨by simp only [sp_Csrs_isReadOnly, if_pos c_1], Or.inr rfl⟩
def sp_Csrs_isAllowed (x0 : Int32) (x1 : Int32) (x2 : Int32)  : Int32 :=
  if (sp_Csrs_isTold x0) = 0 then
    0
  else
    if x1 < ((shr x0 8) &&& 3) then
      0
    else
      if x2 = 0 then
        1
      else
        if (sp_Csrs_isReadOnly x0) = 0 then
          1
        else
          0
set_option maxHeartbeats 4000000 in
set_option maxRecDepth 100000 in
theorem c_Csrs_isAllowed {l : Launch} {D : va_G} {g : Nat → Nat}  (x0 : Int32) (x1 : Int32) (x2 : Int32)   : CT l D g y_Csrs_isAllowed b_Csrs_isAllowed 3 (some .boolean) (rD 1) [.int x0, .int x1, .int x2] ([]) ([]) (Qi D (fun (r : Int32) (_ : Unit) => sp_Csrs_isAllowed x0 x1 x2 = r ∧ (r = 0 ∨ r = 1)) (fun _ => [])) := by
  refine CT.of rfl (Nat.le_of_ble_eq_true rfl) (fun p e s m below meth c A ls hx hb hr hml hts hown hlocks hA hP hK hD hF hS hl => ?_)
  have hl : lv_has ls 3 [(0, .int x0), (1, .int x1), (2, .int x2)] := hl
  refine lv_iload_n hx hb d_Csrs_isAllowed_0 rfl (lv_at hl 0 rfl) ?_
  refine xi (wr := []) (W2 := fun _ => []) (xS (rest := []) ⟨hx, hb, hml, hown, hts⟩ (c_Csrs_isTold x0) mw_Csrs_isTold ms_Csrs_isTold k_138 ⟨rfl, rfl, Nat.le_of_ble_eq_true rfl, Nat.le_of_ble_eq_true rfl⟩ hK hP hD hS hA hF [] [] rfl rfl rfl rfl hl.1 rfl (Nat.le_of_ble_eq_true rfl) d_Csrs_isAllowed_1 ⟨Nat.zero_le _, Nat.zero_le _⟩) hP hD hS hA [] [] [] rfl rfl rfl (by decide) (fun _ => rfl) rfl (fun r_1 _ H locs h_1 hP hD hS => ?_)
  obtain ⟨h_1, z_1⟩ := h_1
  subst h_1
  refine lv_if_eq (tgt := 32) hx hb d_Csrs_isAllowed_4 (by decide) (fun c_2 => ?_) (fun c_2 => ?_)
  · refine lv_iconst (v := 0) hx hb d_Csrs_isAllowed_32 rfl ?_
    exact rz () hx hb hr hlocks rfl hP hD hS d_Csrs_isAllowed_33 ⟨by simp only [sp_Csrs_isAllowed, if_pos c_2], Or.inl rfl⟩
  · refine lv_iload_n hx hb d_Csrs_isAllowed_7 rfl (lv_at hl 1 rfl) ?_
    refine lv_iload_n hx hb d_Csrs_isAllowed_8 rfl (lv_at hl 0 rfl) ?_
    refine lv_bipush (v := 8) hx hb d_Csrs_isAllowed_9 rfl ?_
    refine y_ishr hx hb d_Csrs_isAllowed_11 ?_
    refine lv_iconst (v := 3) hx hb d_Csrs_isAllowed_12 rfl ?_
    refine lv_iand hx hb d_Csrs_isAllowed_13 ?_
    refine lv_icmp_lt (tgt := 32) hx hb d_Csrs_isAllowed_14 (by decide) (fun c_3 => ?_) (fun c_3 => ?_)
    · refine lv_iconst (v := 0) hx hb d_Csrs_isAllowed_32 rfl ?_
      exact rz () hx hb hr hlocks rfl hP hD hS d_Csrs_isAllowed_33 ⟨by simp only [sp_Csrs_isAllowed, if_neg c_2, if_pos c_3], Or.inl rfl⟩
    · refine lv_iload_n hx hb d_Csrs_isAllowed_17 rfl (lv_at hl 2 rfl) ?_
      refine lv_if_eq (tgt := 28) hx hb d_Csrs_isAllowed_18 (by decide) (fun c_4 => ?_) (fun c_4 => ?_)
      · refine lv_iconst (v := 1) hx hb d_Csrs_isAllowed_28 rfl ?_
        refine lv_goto (tgt := 33) hx hb d_Csrs_isAllowed_29 (by decide) ?_
        exact rz () hx hb hr hlocks rfl hP hD hS d_Csrs_isAllowed_33 ⟨by simp only [sp_Csrs_isAllowed, if_neg c_2, if_neg c_3, if_pos c_4], Or.inr rfl⟩
      · refine lv_iload_n hx hb d_Csrs_isAllowed_21 rfl (lv_at hl 0 rfl) ?_
        refine xi (wr := []) (W2 := fun _ => []) (xS (rest := []) ⟨hx, hb, hml, hown, hts⟩ (c_Csrs_isReadOnly x0) mw_Csrs_isReadOnly ms_Csrs_isReadOnly k_139 ⟨rfl, rfl, Nat.le_of_ble_eq_true rfl, Nat.le_of_ble_eq_true rfl⟩ hK hP hD hS hA hF [] [] rfl rfl rfl rfl hl.1 rfl (Nat.le_of_ble_eq_true rfl) d_Csrs_isAllowed_22 ⟨Nat.zero_le _, Nat.zero_le _⟩) hP hD hS hA [] [] [] rfl rfl rfl (by decide) (fun _ => rfl) rfl (fun r_5 _ H locs h_5 hP hD hS => ?_)
        obtain ⟨h_5, z_5⟩ := h_5
        subst h_5
        refine lv_if_ne (tgt := 32) hx hb d_Csrs_isAllowed_25 (by decide) (fun c_6 => ?_) (fun c_6 => ?_)
        · refine lv_iconst (v := 0) hx hb d_Csrs_isAllowed_32 rfl ?_
          exact rz () hx hb hr hlocks rfl hP hD hS d_Csrs_isAllowed_33 ⟨by simp only [sp_Csrs_isAllowed, if_neg c_2, if_neg c_3, if_neg c_4, if_neg c_6], Or.inl rfl⟩
        · refine lv_iconst (v := 1) hx hb d_Csrs_isAllowed_28 rfl ?_
          refine lv_goto (tgt := 33) hx hb d_Csrs_isAllowed_29 (by decide) ?_
          exact rz () hx hb hr hlocks rfl hP hD hS d_Csrs_isAllowed_33 ⟨by simp only [sp_Csrs_isAllowed, if_neg c_2, if_neg c_3, if_neg c_4, if_pos c_6], Or.inr rfl⟩
def sp_Csrs_read (x0 : Int32) (x1 : Int32) (q : Nat → Int32) : Int32 :=
  if x0 = 256 then
    (q 1) &&& 786722
  else
    if x0 = 260 then
      (q 4) &&& (q 3)
    else
      if x0 = 261 then
        q 11
      else
        if x0 = 320 then
          q 13
        else
          if x0 = 321 then
            q 12
          else
            if x0 = 322 then
              q 14
            else
              if x0 = 323 then
                q 15
              else
                if x0 = 324 then
                  ((q 10) ||| x1) &&& (q 3)
                else
                  if x0 = 384 then
                    q 16
                  else
                    if x0 = 768 then
                      q 1
                    else
                      if x0 = 769 then
                        1075056897
                      else
                        if x0 = 770 then
                          q 2
                        else
                          if x0 = 771 then
                            q 3
                          else
                            if x0 = 772 then
                              q 4
                            else
                              if x0 = 773 then
                                q 5
                              else
                                if x0 = 832 then
                                  q 7
                                else
                                  if x0 = 833 then
                                    q 6
                                  else
                                    if x0 = 834 then
                                      q 8
                                    else
                                      if x0 = 835 then
                                        q 9
                                      else
                                        if x0 = 836 then
                                          (q 10) ||| x1
                                        else
                                          if x0 = 3860 then
                                            q 0
                                          else
                                            0
set_option maxHeartbeats 4000000 in
set_option maxRecDepth 100000 in
theorem c_Csrs_read {l : Launch} {D : va_G} {g : Nat → Nat} (h : Nat) (x0 : Int32) (x1 : Int32) (q : Nat → Int32)  : CT l D g y_Csrs_read b_Csrs_read 3 (some .int) (rD 0) [.ref h, .int x0, .int x1] (wC h q) ([]) (Qi D (fun (r : Int32) (_ : Unit) => sp_Csrs_read x0 x1 q = r) (fun _ => wC h q)) := by
  refine CT.of rfl (Nat.le_of_ble_eq_true rfl) (fun p e s m below meth c A ls hx hb hr hml hts hown hlocks hA hP hK hD hF hS hl => ?_)
  have hl : lv_has ls 3 [(0, .ref h), (1, .int x0), (2, .int x1)] := hl
  refine lv_iload_n hx hb d_Csrs_read_0 rfl (lv_at hl 1 rfl) ?_
  by_cases c_1 : x0 = 256
  · refine lv_lookup (off := 179) (tgt := 180) hx hb d_Csrs_read_1 rfl (by rw [c_1]; rfl) (by decide) ?_
    refine lv_aload_n hx hb d_Csrs_read_180 rfl (lv_at hl 0 rfl) ?_
    refine va_get (D := D) (ci := 3) (v := .int (q 1)) (C := R_Csrs) (T := F_Csrs) (N := 17) hx hb hts i_Csrs hown hK hP 0 rfl rfl 1 (by decide) (hts _ k_6) (fun _ h9 => h9) rfl d_Csrs_read_181 ?_
    refine lv_ldc (v := 786722) hx hb hown (hts _ k_140) d_Csrs_read_184 ?_
    refine lv_iand hx hb d_Csrs_read_186 ?_
    exact ri () hx hb hr hlocks hP hD hS d_Csrs_read_187 (by simp only [sp_Csrs_read, if_pos c_1])
  · by_cases c_2 : x0 = 260
    · refine lv_lookup (off := 187) (tgt := 188) hx hb d_Csrs_read_1 rfl (by rw [c_2]; rfl) (by decide) ?_
      refine lv_aload_n hx hb d_Csrs_read_188 rfl (lv_at hl 0 rfl) ?_
      refine va_get (D := D) (ci := 3) (v := .int (q 4)) (C := R_Csrs) (T := F_Csrs) (N := 17) hx hb hts i_Csrs hown hK hP 0 rfl rfl 4 (by decide) (hts _ k_9) (fun _ h9 => h9) rfl d_Csrs_read_189 ?_
      refine lv_aload_n hx hb d_Csrs_read_192 rfl (lv_at hl 0 rfl) ?_
      refine va_get (D := D) (ci := 3) (v := .int (q 3)) (C := R_Csrs) (T := F_Csrs) (N := 17) hx hb hts i_Csrs hown hK hP 0 rfl rfl 3 (by decide) (hts _ k_8) (fun _ h9 => h9) rfl d_Csrs_read_193 ?_
      refine lv_iand hx hb d_Csrs_read_196 ?_
      exact ri () hx hb hr hlocks hP hD hS d_Csrs_read_197 (by simp only [sp_Csrs_read, if_neg c_1, if_pos c_2])
    · by_cases c_3 : x0 = 261
      · refine lv_lookup (off := 197) (tgt := 198) hx hb d_Csrs_read_1 rfl (by rw [c_3]; rfl) (by decide) ?_
        refine lv_aload_n hx hb d_Csrs_read_198 rfl (lv_at hl 0 rfl) ?_
        refine va_get (D := D) (ci := 3) (v := .int (q 11)) (C := R_Csrs) (T := F_Csrs) (N := 17) hx hb hts i_Csrs hown hK hP 0 rfl rfl 11 (by decide) (hts _ k_16) (fun _ h9 => h9) rfl d_Csrs_read_199 ?_
        exact ri () hx hb hr hlocks hP hD hS d_Csrs_read_202 (by simp only [sp_Csrs_read, if_neg c_1, if_neg c_2, if_pos c_3])
      · by_cases c_4 : x0 = 320
        · refine lv_lookup (off := 202) (tgt := 203) hx hb d_Csrs_read_1 rfl (by rw [c_4]; rfl) (by decide) ?_
          refine lv_aload_n hx hb d_Csrs_read_203 rfl (lv_at hl 0 rfl) ?_
          refine va_get (D := D) (ci := 3) (v := .int (q 13)) (C := R_Csrs) (T := F_Csrs) (N := 17) hx hb hts i_Csrs hown hK hP 0 rfl rfl 13 (by decide) (hts _ k_18) (fun _ h9 => h9) rfl d_Csrs_read_204 ?_
          exact ri () hx hb hr hlocks hP hD hS d_Csrs_read_207 (by simp only [sp_Csrs_read, if_neg c_1, if_neg c_2, if_neg c_3, if_pos c_4])
        · by_cases c_5 : x0 = 321
          · refine lv_lookup (off := 207) (tgt := 208) hx hb d_Csrs_read_1 rfl (by rw [c_5]; rfl) (by decide) ?_
            refine lv_aload_n hx hb d_Csrs_read_208 rfl (lv_at hl 0 rfl) ?_
            refine va_get (D := D) (ci := 3) (v := .int (q 12)) (C := R_Csrs) (T := F_Csrs) (N := 17) hx hb hts i_Csrs hown hK hP 0 rfl rfl 12 (by decide) (hts _ k_17) (fun _ h9 => h9) rfl d_Csrs_read_209 ?_
            exact ri () hx hb hr hlocks hP hD hS d_Csrs_read_212 (by simp only [sp_Csrs_read, if_neg c_1, if_neg c_2, if_neg c_3, if_neg c_4, if_pos c_5])
          · by_cases c_6 : x0 = 322
            · refine lv_lookup (off := 212) (tgt := 213) hx hb d_Csrs_read_1 rfl (by rw [c_6]; rfl) (by decide) ?_
              refine lv_aload_n hx hb d_Csrs_read_213 rfl (lv_at hl 0 rfl) ?_
              refine va_get (D := D) (ci := 3) (v := .int (q 14)) (C := R_Csrs) (T := F_Csrs) (N := 17) hx hb hts i_Csrs hown hK hP 0 rfl rfl 14 (by decide) (hts _ k_19) (fun _ h9 => h9) rfl d_Csrs_read_214 ?_
              exact ri () hx hb hr hlocks hP hD hS d_Csrs_read_217 (by simp only [sp_Csrs_read, if_neg c_1, if_neg c_2, if_neg c_3, if_neg c_4, if_neg c_5, if_pos c_6])
            · by_cases c_7 : x0 = 323
              · refine lv_lookup (off := 217) (tgt := 218) hx hb d_Csrs_read_1 rfl (by rw [c_7]; rfl) (by decide) ?_
                refine lv_aload_n hx hb d_Csrs_read_218 rfl (lv_at hl 0 rfl) ?_
                refine va_get (D := D) (ci := 3) (v := .int (q 15)) (C := R_Csrs) (T := F_Csrs) (N := 17) hx hb hts i_Csrs hown hK hP 0 rfl rfl 15 (by decide) (hts _ k_20) (fun _ h9 => h9) rfl d_Csrs_read_219 ?_
                exact ri () hx hb hr hlocks hP hD hS d_Csrs_read_222 (by simp only [sp_Csrs_read, if_neg c_1, if_neg c_2, if_neg c_3, if_neg c_4, if_neg c_5, if_neg c_6, if_pos c_7])
              · by_cases c_8 : x0 = 324
                · refine lv_lookup (off := 222) (tgt := 223) hx hb d_Csrs_read_1 rfl (by rw [c_8]; rfl) (by decide) ?_
                  refine lv_aload_n hx hb d_Csrs_read_223 rfl (lv_at hl 0 rfl) ?_
                  refine va_get (D := D) (ci := 3) (v := .int (q 10)) (C := R_Csrs) (T := F_Csrs) (N := 17) hx hb hts i_Csrs hown hK hP 0 rfl rfl 10 (by decide) (hts _ k_15) (fun _ h9 => h9) rfl d_Csrs_read_224 ?_
                  refine lv_iload_n hx hb d_Csrs_read_227 rfl (lv_at hl 2 rfl) ?_
                  refine lv_ior hx hb d_Csrs_read_228 ?_
                  refine lv_aload_n hx hb d_Csrs_read_229 rfl (lv_at hl 0 rfl) ?_
                  refine va_get (D := D) (ci := 3) (v := .int (q 3)) (C := R_Csrs) (T := F_Csrs) (N := 17) hx hb hts i_Csrs hown hK hP 0 rfl rfl 3 (by decide) (hts _ k_8) (fun _ h9 => h9) rfl d_Csrs_read_230 ?_
                  refine lv_iand hx hb d_Csrs_read_233 ?_
                  exact ri () hx hb hr hlocks hP hD hS d_Csrs_read_234 (by simp only [sp_Csrs_read, if_neg c_1, if_neg c_2, if_neg c_3, if_neg c_4, if_neg c_5, if_neg c_6, if_neg c_7, if_pos c_8])
                · by_cases c_9 : x0 = 384
                  · refine lv_lookup (off := 234) (tgt := 235) hx hb d_Csrs_read_1 rfl (by rw [c_9]; rfl) (by decide) ?_
                    refine lv_aload_n hx hb d_Csrs_read_235 rfl (lv_at hl 0 rfl) ?_
                    refine va_get (D := D) (ci := 3) (v := .int (q 16)) (C := R_Csrs) (T := F_Csrs) (N := 17) hx hb hts i_Csrs hown hK hP 0 rfl rfl 16 (by decide) (hts _ k_21) (fun _ h9 => h9) rfl d_Csrs_read_236 ?_
                    exact ri () hx hb hr hlocks hP hD hS d_Csrs_read_239 (by simp only [sp_Csrs_read, if_neg c_1, if_neg c_2, if_neg c_3, if_neg c_4, if_neg c_5, if_neg c_6, if_neg c_7, if_neg c_8, if_pos c_9])
                  · by_cases c_10 : x0 = 768
                    · refine lv_lookup (off := 239) (tgt := 240) hx hb d_Csrs_read_1 rfl (by rw [c_10]; rfl) (by decide) ?_
                      refine lv_aload_n hx hb d_Csrs_read_240 rfl (lv_at hl 0 rfl) ?_
                      refine va_get (D := D) (ci := 3) (v := .int (q 1)) (C := R_Csrs) (T := F_Csrs) (N := 17) hx hb hts i_Csrs hown hK hP 0 rfl rfl 1 (by decide) (hts _ k_6) (fun _ h9 => h9) rfl d_Csrs_read_241 ?_
                      exact ri () hx hb hr hlocks hP hD hS d_Csrs_read_244 (by simp only [sp_Csrs_read, if_neg c_1, if_neg c_2, if_neg c_3, if_neg c_4, if_neg c_5, if_neg c_6, if_neg c_7, if_neg c_8, if_neg c_9, if_pos c_10])
                    · by_cases c_11 : x0 = 769
                      · refine lv_lookup (off := 244) (tgt := 245) hx hb d_Csrs_read_1 rfl (by rw [c_11]; rfl) (by decide) ?_
                        refine lv_ldc (v := 1075056897) hx hb hown (hts _ k_141) d_Csrs_read_245 ?_
                        exact ri () hx hb hr hlocks hP hD hS d_Csrs_read_247 (by simp only [sp_Csrs_read, if_neg c_1, if_neg c_2, if_neg c_3, if_neg c_4, if_neg c_5, if_neg c_6, if_neg c_7, if_neg c_8, if_neg c_9, if_neg c_10, if_pos c_11])
                      · by_cases c_12 : x0 = 770
                        · refine lv_lookup (off := 247) (tgt := 248) hx hb d_Csrs_read_1 rfl (by rw [c_12]; rfl) (by decide) ?_
                          refine lv_aload_n hx hb d_Csrs_read_248 rfl (lv_at hl 0 rfl) ?_
                          refine va_get (D := D) (ci := 3) (v := .int (q 2)) (C := R_Csrs) (T := F_Csrs) (N := 17) hx hb hts i_Csrs hown hK hP 0 rfl rfl 2 (by decide) (hts _ k_7) (fun _ h9 => h9) rfl d_Csrs_read_249 ?_
                          exact ri () hx hb hr hlocks hP hD hS d_Csrs_read_252 (by simp only [sp_Csrs_read, if_neg c_1, if_neg c_2, if_neg c_3, if_neg c_4, if_neg c_5, if_neg c_6, if_neg c_7, if_neg c_8, if_neg c_9, if_neg c_10, if_neg c_11, if_pos c_12])
                        · by_cases c_13 : x0 = 771
                          · refine lv_lookup (off := 252) (tgt := 253) hx hb d_Csrs_read_1 rfl (by rw [c_13]; rfl) (by decide) ?_
                            refine lv_aload_n hx hb d_Csrs_read_253 rfl (lv_at hl 0 rfl) ?_
                            refine va_get (D := D) (ci := 3) (v := .int (q 3)) (C := R_Csrs) (T := F_Csrs) (N := 17) hx hb hts i_Csrs hown hK hP 0 rfl rfl 3 (by decide) (hts _ k_8) (fun _ h9 => h9) rfl d_Csrs_read_254 ?_
                            exact ri () hx hb hr hlocks hP hD hS d_Csrs_read_257 (by simp only [sp_Csrs_read, if_neg c_1, if_neg c_2, if_neg c_3, if_neg c_4, if_neg c_5, if_neg c_6, if_neg c_7, if_neg c_8, if_neg c_9, if_neg c_10, if_neg c_11, if_neg c_12, if_pos c_13])
                          · by_cases c_14 : x0 = 772
                            · refine lv_lookup (off := 257) (tgt := 258) hx hb d_Csrs_read_1 rfl (by rw [c_14]; rfl) (by decide) ?_
                              refine lv_aload_n hx hb d_Csrs_read_258 rfl (lv_at hl 0 rfl) ?_
                              refine va_get (D := D) (ci := 3) (v := .int (q 4)) (C := R_Csrs) (T := F_Csrs) (N := 17) hx hb hts i_Csrs hown hK hP 0 rfl rfl 4 (by decide) (hts _ k_9) (fun _ h9 => h9) rfl d_Csrs_read_259 ?_
                              exact ri () hx hb hr hlocks hP hD hS d_Csrs_read_262 (by simp only [sp_Csrs_read, if_neg c_1, if_neg c_2, if_neg c_3, if_neg c_4, if_neg c_5, if_neg c_6, if_neg c_7, if_neg c_8, if_neg c_9, if_neg c_10, if_neg c_11, if_neg c_12, if_neg c_13, if_pos c_14])
                            · by_cases c_15 : x0 = 773
                              · refine lv_lookup (off := 262) (tgt := 263) hx hb d_Csrs_read_1 rfl (by rw [c_15]; rfl) (by decide) ?_
                                refine lv_aload_n hx hb d_Csrs_read_263 rfl (lv_at hl 0 rfl) ?_
                                refine va_get (D := D) (ci := 3) (v := .int (q 5)) (C := R_Csrs) (T := F_Csrs) (N := 17) hx hb hts i_Csrs hown hK hP 0 rfl rfl 5 (by decide) (hts _ k_10) (fun _ h9 => h9) rfl d_Csrs_read_264 ?_
                                exact ri () hx hb hr hlocks hP hD hS d_Csrs_read_267 (by simp only [sp_Csrs_read, if_neg c_1, if_neg c_2, if_neg c_3, if_neg c_4, if_neg c_5, if_neg c_6, if_neg c_7, if_neg c_8, if_neg c_9, if_neg c_10, if_neg c_11, if_neg c_12, if_neg c_13, if_neg c_14, if_pos c_15])
                              · by_cases c_16 : x0 = 832
                                · refine lv_lookup (off := 267) (tgt := 268) hx hb d_Csrs_read_1 rfl (by rw [c_16]; rfl) (by decide) ?_
                                  refine lv_aload_n hx hb d_Csrs_read_268 rfl (lv_at hl 0 rfl) ?_
                                  refine va_get (D := D) (ci := 3) (v := .int (q 7)) (C := R_Csrs) (T := F_Csrs) (N := 17) hx hb hts i_Csrs hown hK hP 0 rfl rfl 7 (by decide) (hts _ k_12) (fun _ h9 => h9) rfl d_Csrs_read_269 ?_
                                  exact ri () hx hb hr hlocks hP hD hS d_Csrs_read_272 (by simp only [sp_Csrs_read, if_neg c_1, if_neg c_2, if_neg c_3, if_neg c_4, if_neg c_5, if_neg c_6, if_neg c_7, if_neg c_8, if_neg c_9, if_neg c_10, if_neg c_11, if_neg c_12, if_neg c_13, if_neg c_14, if_neg c_15, if_pos c_16])
                                · by_cases c_17 : x0 = 833
                                  · refine lv_lookup (off := 272) (tgt := 273) hx hb d_Csrs_read_1 rfl (by rw [c_17]; rfl) (by decide) ?_
                                    refine lv_aload_n hx hb d_Csrs_read_273 rfl (lv_at hl 0 rfl) ?_
                                    refine va_get (D := D) (ci := 3) (v := .int (q 6)) (C := R_Csrs) (T := F_Csrs) (N := 17) hx hb hts i_Csrs hown hK hP 0 rfl rfl 6 (by decide) (hts _ k_11) (fun _ h9 => h9) rfl d_Csrs_read_274 ?_
                                    exact ri () hx hb hr hlocks hP hD hS d_Csrs_read_277 (by simp only [sp_Csrs_read, if_neg c_1, if_neg c_2, if_neg c_3, if_neg c_4, if_neg c_5, if_neg c_6, if_neg c_7, if_neg c_8, if_neg c_9, if_neg c_10, if_neg c_11, if_neg c_12, if_neg c_13, if_neg c_14, if_neg c_15, if_neg c_16, if_pos c_17])
                                  · by_cases c_18 : x0 = 834
                                    · refine lv_lookup (off := 277) (tgt := 278) hx hb d_Csrs_read_1 rfl (by rw [c_18]; rfl) (by decide) ?_
                                      refine lv_aload_n hx hb d_Csrs_read_278 rfl (lv_at hl 0 rfl) ?_
                                      refine va_get (D := D) (ci := 3) (v := .int (q 8)) (C := R_Csrs) (T := F_Csrs) (N := 17) hx hb hts i_Csrs hown hK hP 0 rfl rfl 8 (by decide) (hts _ k_13) (fun _ h9 => h9) rfl d_Csrs_read_279 ?_
                                      exact ri () hx hb hr hlocks hP hD hS d_Csrs_read_282 (by simp only [sp_Csrs_read, if_neg c_1, if_neg c_2, if_neg c_3, if_neg c_4, if_neg c_5, if_neg c_6, if_neg c_7, if_neg c_8, if_neg c_9, if_neg c_10, if_neg c_11, if_neg c_12, if_neg c_13, if_neg c_14, if_neg c_15, if_neg c_16, if_neg c_17, if_pos c_18])
                                    · by_cases c_19 : x0 = 835
                                      · refine lv_lookup (off := 282) (tgt := 283) hx hb d_Csrs_read_1 rfl (by rw [c_19]; rfl) (by decide) ?_
                                        refine lv_aload_n hx hb d_Csrs_read_283 rfl (lv_at hl 0 rfl) ?_
                                        refine va_get (D := D) (ci := 3) (v := .int (q 9)) (C := R_Csrs) (T := F_Csrs) (N := 17) hx hb hts i_Csrs hown hK hP 0 rfl rfl 9 (by decide) (hts _ k_14) (fun _ h9 => h9) rfl d_Csrs_read_284 ?_
                                        exact ri () hx hb hr hlocks hP hD hS d_Csrs_read_287 (by simp only [sp_Csrs_read, if_neg c_1, if_neg c_2, if_neg c_3, if_neg c_4, if_neg c_5, if_neg c_6, if_neg c_7, if_neg c_8, if_neg c_9, if_neg c_10, if_neg c_11, if_neg c_12, if_neg c_13, if_neg c_14, if_neg c_15, if_neg c_16, if_neg c_17, if_neg c_18, if_pos c_19])
                                      · by_cases c_20 : x0 = 836
                                        · refine lv_lookup (off := 287) (tgt := 288) hx hb d_Csrs_read_1 rfl (by rw [c_20]; rfl) (by decide) ?_
                                          refine lv_aload_n hx hb d_Csrs_read_288 rfl (lv_at hl 0 rfl) ?_
                                          refine va_get (D := D) (ci := 3) (v := .int (q 10)) (C := R_Csrs) (T := F_Csrs) (N := 17) hx hb hts i_Csrs hown hK hP 0 rfl rfl 10 (by decide) (hts _ k_15) (fun _ h9 => h9) rfl d_Csrs_read_289 ?_
                                          refine lv_iload_n hx hb d_Csrs_read_292 rfl (lv_at hl 2 rfl) ?_
                                          refine lv_ior hx hb d_Csrs_read_293 ?_
                                          exact ri () hx hb hr hlocks hP hD hS d_Csrs_read_294 (by simp only [sp_Csrs_read, if_neg c_1, if_neg c_2, if_neg c_3, if_neg c_4, if_neg c_5, if_neg c_6, if_neg c_7, if_neg c_8, if_neg c_9, if_neg c_10, if_neg c_11, if_neg c_12, if_neg c_13, if_neg c_14, if_neg c_15, if_neg c_16, if_neg c_17, if_neg c_18, if_neg c_19, if_pos c_20])
                                        · by_cases c_21 : x0 = 3860
                                          · refine lv_lookup (off := 294) (tgt := 295) hx hb d_Csrs_read_1 rfl (by rw [c_21]; rfl) (by decide) ?_
                                            refine lv_aload_n hx hb d_Csrs_read_295 rfl (lv_at hl 0 rfl) ?_
                                            refine va_get (D := D) (ci := 3) (v := .int (q 0)) (C := R_Csrs) (T := F_Csrs) (N := 17) hx hb hts i_Csrs hown hK hP 0 rfl rfl 0 (by decide) (hts _ k_142) (fun _ h9 => h9) rfl d_Csrs_read_296 ?_
                                            exact ri () hx hb hr hlocks hP hD hS d_Csrs_read_299 (by simp only [sp_Csrs_read, if_neg c_1, if_neg c_2, if_neg c_3, if_neg c_4, if_neg c_5, if_neg c_6, if_neg c_7, if_neg c_8, if_neg c_9, if_neg c_10, if_neg c_11, if_neg c_12, if_neg c_13, if_neg c_14, if_neg c_15, if_neg c_16, if_neg c_17, if_neg c_18, if_neg c_19, if_neg c_20, if_pos c_21])
                                          · refine lv_lookup (off := 299) (tgt := 300) hx hb d_Csrs_read_1 rfl ((lv_osw (a := 256) c_1 rfl).trans ((lv_osw (a := 260) c_2 rfl).trans ((lv_osw (a := 261) c_3 rfl).trans ((lv_osw (a := 320) c_4 rfl).trans ((lv_osw (a := 321) c_5 rfl).trans ((lv_osw (a := 322) c_6 rfl).trans ((lv_osw (a := 323) c_7 rfl).trans ((lv_osw (a := 324) c_8 rfl).trans ((lv_osw (a := 384) c_9 rfl).trans ((lv_osw (a := 768) c_10 rfl).trans ((lv_osw (a := 769) c_11 rfl).trans ((lv_osw (a := 770) c_12 rfl).trans ((lv_osw (a := 771) c_13 rfl).trans ((lv_osw (a := 772) c_14 rfl).trans ((lv_osw (a := 773) c_15 rfl).trans ((lv_osw (a := 832) c_16 rfl).trans ((lv_osw (a := 833) c_17 rfl).trans ((lv_osw (a := 834) c_18 rfl).trans ((lv_osw (a := 835) c_19 rfl).trans ((lv_osw (a := 836) c_20 rfl).trans ((lv_osw (a := 3860) c_21 rfl).trans (rfl)))))))))))))))))))))) (by decide) ?_
                                            refine lv_iconst (v := 0) hx hb d_Csrs_read_300 rfl ?_
                                            exact ri () hx hb hr hlocks hP hD hS d_Csrs_read_301 (by simp only [sp_Csrs_read, if_neg c_1, if_neg c_2, if_neg c_3, if_neg c_4, if_neg c_5, if_neg c_6, if_neg c_7, if_neg c_8, if_neg c_9, if_neg c_10, if_neg c_11, if_neg c_12, if_neg c_13, if_neg c_14, if_neg c_15, if_neg c_16, if_neg c_17, if_neg c_18, if_neg c_19, if_neg c_20, if_neg c_21])
def sp_Csrs_merged (x0 : Int32) (x1 : Int32) (x2 : Int32)  : Int32 :=
  (x0 &&& (x2 ^^^ (-1))) ||| (x1 &&& x2)
set_option maxHeartbeats 4000000 in
set_option maxRecDepth 100000 in
theorem c_Csrs_merged {l : Launch} {D : va_G} {g : Nat → Nat}  (x0 : Int32) (x1 : Int32) (x2 : Int32)   : CT l D g y_Csrs_merged b_Csrs_merged 3 (some .int) (rD 0) [.int x0, .int x1, .int x2] ([]) ([]) (Qi D (fun (r : Int32) (_ : Unit) => sp_Csrs_merged x0 x1 x2 = r) (fun _ => [])) := by
  refine CT.of rfl (Nat.le_of_ble_eq_true rfl) (fun p e s m below meth c A ls hx hb hr hml hts hown hlocks hA hP hK hD hF hS hl => ?_)
  have hl : lv_has ls 3 [(0, .int x0), (1, .int x1), (2, .int x2)] := hl
  refine lv_iload_n hx hb d_Csrs_merged_0 rfl (lv_at hl 0 rfl) ?_
  refine lv_iload_n hx hb d_Csrs_merged_1 rfl (lv_at hl 2 rfl) ?_
  refine lv_iconst (v := (-1)) hx hb d_Csrs_merged_2 rfl ?_
  refine lv_ixor hx hb d_Csrs_merged_3 ?_
  refine lv_iand hx hb d_Csrs_merged_4 ?_
  refine lv_iload_n hx hb d_Csrs_merged_5 rfl (lv_at hl 1 rfl) ?_
  refine lv_iload_n hx hb d_Csrs_merged_6 rfl (lv_at hl 2 rfl) ?_
  refine lv_iand hx hb d_Csrs_merged_7 ?_
  refine lv_ior hx hb d_Csrs_merged_8 ?_
  exact ri () hx hb hr hlocks hP hD hS d_Csrs_merged_9 (by simp only [sp_Csrs_merged])
def sp_Csrs_writeSupervisor (x0 : Int32) (x1 : Int32) (q : Nat → Int32) : Nat → Int32 :=
  if x0 = 256 then
    (upd q 1 (sp_Csrs_merged (q 1) x1 786722))
  else
    if x0 = 260 then
      (upd q 4 (sp_Csrs_merged (q 4) x1 (q 3)))
    else
      if x0 = 261 then
        (upd q 11 (x1 &&& (-4)))
      else
        if x0 = 320 then
          (upd q 13 x1)
        else
          if x0 = 321 then
            (upd q 12 (x1 &&& (-4)))
          else
            if x0 = 322 then
              (upd q 14 x1)
            else
              if x0 = 323 then
                (upd q 15 x1)
              else
                if x0 = 324 then
                  (upd q 10 (sp_Csrs_merged (q 10) x1 ((q 3) &&& 2)))
                else
                  if x0 = 384 then
                    (upd q 16 (x1 &&& (-2143289345)))
                  else
                    q
set_option maxHeartbeats 4000000 in
set_option maxRecDepth 100000 in
theorem c_Csrs_writeSupervisor {l : Launch} {D : va_G} {g : Nat → Nat} (h : Nat) (x0 : Int32) (x1 : Int32) (q : Nat → Int32)  : CT l D g y_Csrs_writeSupervisor b_Csrs_writeSupervisor 3 none (rD 1) [.ref h, .int x0, .int x1] (wC h q) ([]) (Qv D (fun (u : Nat → Int32) => sp_Csrs_writeSupervisor x0 x1 q = u) (fun u => wC h u)) := by
  refine CT.of rfl (Nat.le_of_ble_eq_true rfl) (fun p e s m below meth c A ls hx hb hr hml hts hown hlocks hA hP hK hD hF hS hl => ?_)
  have hl : lv_has ls 3 [(0, .ref h), (1, .int x0), (2, .int x1)] := hl
  refine lv_iload_n hx hb d_Csrs_writeSupervisor_0 rfl (lv_at hl 1 rfl) ?_
  by_cases c_1 : x0 = 256
  · refine lv_lookup (off := 83) (tgt := 84) hx hb d_Csrs_writeSupervisor_1 rfl (by rw [c_1]; rfl) (by decide) ?_
    refine lv_aload_n hx hb d_Csrs_writeSupervisor_84 rfl (lv_at hl 0 rfl) ?_
    refine lv_aload_n hx hb d_Csrs_writeSupervisor_85 rfl (lv_at hl 0 rfl) ?_
    refine va_get (D := D) (ci := 3) (v := .int (q 1)) (C := R_Csrs) (T := F_Csrs) (N := 17) hx hb hts i_Csrs hown hK hP 0 rfl rfl 1 (by decide) (hts _ k_6) (fun _ h9 => h9) rfl d_Csrs_writeSupervisor_86 ?_
    refine lv_iload_n hx hb d_Csrs_writeSupervisor_89 rfl (lv_at hl 2 rfl) ?_
    refine lv_ldc (v := 786722) hx hb hown (hts _ k_140) d_Csrs_writeSupervisor_90 ?_
    refine xi (wr := [(h, .inr (3, csF q))]) (W2 := fun _ => wC h q) (xS (rest := [.ref h]) ⟨hx, hb, hml, hown, hts⟩ (c_Csrs_merged (q 1) x1 786722) mw_Csrs_merged ms_Csrs_merged k_143 ⟨rfl, rfl, Nat.le_of_ble_eq_true rfl, Nat.le_of_ble_eq_true rfl⟩ hK hP hD hS hA hF [] [] rfl rfl rfl rfl hl.1 rfl (Nat.le_of_ble_eq_true rfl) d_Csrs_writeSupervisor_92 ⟨Nat.zero_le _, Nat.zero_le _⟩) hP hD hS hA [] [0] [0] rfl rfl rfl (by decide) (fun _ => rfl) rfl (fun r_2 _ H locs h_2 hP hD hS => ?_)
    subst h_2
    refine y_put (D := D) (ci := 3) (v := .int (sp_Csrs_merged (q 1) x1 786722)) (ty := .int) (C := R_Csrs) (T := F_Csrs) (N := 17) (ws' := wC h (upd q 1 (sp_Csrs_merged (q 1) x1 786722))) hx hb hts i_Csrs t_Csrs t_Csrs_ok n_Csrs hown hK hP hD hS 0 rfl rfl 1 (by decide) (hts _ k_6) (fun _ h9 => h9) rfl (by decide +kernel) rfl rfl (Nat.le_of_ble_eq_true rfl) d_Csrs_writeSupervisor_95 rfl (fun H locs hP hD hS => ?_)
    refine lv_goto (tgt := 198) hx hb d_Csrs_writeSupervisor_98 (by decide) ?_
    exact rv (upd q 1 (sp_Csrs_merged (q 1) x1 786722)) hx hb hr hlocks hP hD hS d_Csrs_writeSupervisor_198 (by simp only [sp_Csrs_writeSupervisor, if_pos c_1])
  · by_cases c_3 : x0 = 260
    · refine lv_lookup (off := 100) (tgt := 101) hx hb d_Csrs_writeSupervisor_1 rfl (by rw [c_3]; rfl) (by decide) ?_
      refine lv_aload_n hx hb d_Csrs_writeSupervisor_101 rfl (lv_at hl 0 rfl) ?_
      refine lv_aload_n hx hb d_Csrs_writeSupervisor_102 rfl (lv_at hl 0 rfl) ?_
      refine va_get (D := D) (ci := 3) (v := .int (q 4)) (C := R_Csrs) (T := F_Csrs) (N := 17) hx hb hts i_Csrs hown hK hP 0 rfl rfl 4 (by decide) (hts _ k_9) (fun _ h9 => h9) rfl d_Csrs_writeSupervisor_103 ?_
      refine lv_iload_n hx hb d_Csrs_writeSupervisor_106 rfl (lv_at hl 2 rfl) ?_
      refine lv_aload_n hx hb d_Csrs_writeSupervisor_107 rfl (lv_at hl 0 rfl) ?_
      refine va_get (D := D) (ci := 3) (v := .int (q 3)) (C := R_Csrs) (T := F_Csrs) (N := 17) hx hb hts i_Csrs hown hK hP 0 rfl rfl 3 (by decide) (hts _ k_8) (fun _ h9 => h9) rfl d_Csrs_writeSupervisor_108 ?_
      refine xi (wr := [(h, .inr (3, csF q))]) (W2 := fun _ => wC h q) (xS (rest := [.ref h]) ⟨hx, hb, hml, hown, hts⟩ (c_Csrs_merged (q 4) x1 (q 3)) mw_Csrs_merged ms_Csrs_merged k_143 ⟨rfl, rfl, Nat.le_of_ble_eq_true rfl, Nat.le_of_ble_eq_true rfl⟩ hK hP hD hS hA hF [] [] rfl rfl rfl rfl hl.1 rfl (Nat.le_of_ble_eq_true rfl) d_Csrs_writeSupervisor_111 ⟨Nat.zero_le _, Nat.zero_le _⟩) hP hD hS hA [] [0] [0] rfl rfl rfl (by decide) (fun _ => rfl) rfl (fun r_4 _ H locs h_4 hP hD hS => ?_)
      subst h_4
      refine y_put (D := D) (ci := 3) (v := .int (sp_Csrs_merged (q 4) x1 (q 3))) (ty := .int) (C := R_Csrs) (T := F_Csrs) (N := 17) (ws' := wC h (upd q 4 (sp_Csrs_merged (q 4) x1 (q 3)))) hx hb hts i_Csrs t_Csrs t_Csrs_ok n_Csrs hown hK hP hD hS 0 rfl rfl 4 (by decide) (hts _ k_9) (fun _ h9 => h9) rfl (by decide +kernel) rfl rfl (Nat.le_of_ble_eq_true rfl) d_Csrs_writeSupervisor_114 rfl (fun H locs hP hD hS => ?_)
      refine lv_goto (tgt := 198) hx hb d_Csrs_writeSupervisor_117 (by decide) ?_
      exact rv (upd q 4 (sp_Csrs_merged (q 4) x1 (q 3))) hx hb hr hlocks hP hD hS d_Csrs_writeSupervisor_198 (by simp only [sp_Csrs_writeSupervisor, if_neg c_1, if_pos c_3])
    · by_cases c_5 : x0 = 261
      · refine lv_lookup (off := 119) (tgt := 120) hx hb d_Csrs_writeSupervisor_1 rfl (by rw [c_5]; rfl) (by decide) ?_
        refine lv_aload_n hx hb d_Csrs_writeSupervisor_120 rfl (lv_at hl 0 rfl) ?_
        refine lv_iload_n hx hb d_Csrs_writeSupervisor_121 rfl (lv_at hl 2 rfl) ?_
        refine lv_bipush (v := (-4)) hx hb d_Csrs_writeSupervisor_122 rfl ?_
        refine lv_iand hx hb d_Csrs_writeSupervisor_124 ?_
        refine y_put (D := D) (ci := 3) (v := .int (x1 &&& (-4))) (ty := .int) (C := R_Csrs) (T := F_Csrs) (N := 17) (ws' := wC h (upd q 11 (x1 &&& (-4)))) hx hb hts i_Csrs t_Csrs t_Csrs_ok n_Csrs hown hK hP hD hS 0 rfl rfl 11 (by decide) (hts _ k_16) (fun _ h9 => h9) rfl (by decide +kernel) rfl rfl (Nat.le_of_ble_eq_true rfl) d_Csrs_writeSupervisor_125 rfl (fun H locs hP hD hS => ?_)
        refine lv_goto (tgt := 198) hx hb d_Csrs_writeSupervisor_128 (by decide) ?_
        exact rv (upd q 11 (x1 &&& (-4))) hx hb hr hlocks hP hD hS d_Csrs_writeSupervisor_198 (by simp only [sp_Csrs_writeSupervisor, if_neg c_1, if_neg c_3, if_pos c_5])
      · by_cases c_6 : x0 = 320
        · refine lv_lookup (off := 130) (tgt := 131) hx hb d_Csrs_writeSupervisor_1 rfl (by rw [c_6]; rfl) (by decide) ?_
          refine lv_aload_n hx hb d_Csrs_writeSupervisor_131 rfl (lv_at hl 0 rfl) ?_
          refine lv_iload_n hx hb d_Csrs_writeSupervisor_132 rfl (lv_at hl 2 rfl) ?_
          refine y_put (D := D) (ci := 3) (v := .int x1) (ty := .int) (C := R_Csrs) (T := F_Csrs) (N := 17) (ws' := wC h (upd q 13 x1)) hx hb hts i_Csrs t_Csrs t_Csrs_ok n_Csrs hown hK hP hD hS 0 rfl rfl 13 (by decide) (hts _ k_18) (fun _ h9 => h9) rfl (by decide +kernel) rfl rfl (Nat.le_of_ble_eq_true rfl) d_Csrs_writeSupervisor_133 rfl (fun H locs hP hD hS => ?_)
          refine lv_goto (tgt := 198) hx hb d_Csrs_writeSupervisor_136 (by decide) ?_
          exact rv (upd q 13 x1) hx hb hr hlocks hP hD hS d_Csrs_writeSupervisor_198 (by simp only [sp_Csrs_writeSupervisor, if_neg c_1, if_neg c_3, if_neg c_5, if_pos c_6])
        · by_cases c_7 : x0 = 321
          · refine lv_lookup (off := 138) (tgt := 139) hx hb d_Csrs_writeSupervisor_1 rfl (by rw [c_7]; rfl) (by decide) ?_
            refine lv_aload_n hx hb d_Csrs_writeSupervisor_139 rfl (lv_at hl 0 rfl) ?_
            refine lv_iload_n hx hb d_Csrs_writeSupervisor_140 rfl (lv_at hl 2 rfl) ?_
            refine lv_bipush (v := (-4)) hx hb d_Csrs_writeSupervisor_141 rfl ?_
            refine lv_iand hx hb d_Csrs_writeSupervisor_143 ?_
            refine y_put (D := D) (ci := 3) (v := .int (x1 &&& (-4))) (ty := .int) (C := R_Csrs) (T := F_Csrs) (N := 17) (ws' := wC h (upd q 12 (x1 &&& (-4)))) hx hb hts i_Csrs t_Csrs t_Csrs_ok n_Csrs hown hK hP hD hS 0 rfl rfl 12 (by decide) (hts _ k_17) (fun _ h9 => h9) rfl (by decide +kernel) rfl rfl (Nat.le_of_ble_eq_true rfl) d_Csrs_writeSupervisor_144 rfl (fun H locs hP hD hS => ?_)
            refine lv_goto (tgt := 198) hx hb d_Csrs_writeSupervisor_147 (by decide) ?_
            exact rv (upd q 12 (x1 &&& (-4))) hx hb hr hlocks hP hD hS d_Csrs_writeSupervisor_198 (by simp only [sp_Csrs_writeSupervisor, if_neg c_1, if_neg c_3, if_neg c_5, if_neg c_6, if_pos c_7])
          · by_cases c_8 : x0 = 322
            · refine lv_lookup (off := 149) (tgt := 150) hx hb d_Csrs_writeSupervisor_1 rfl (by rw [c_8]; rfl) (by decide) ?_
              refine lv_aload_n hx hb d_Csrs_writeSupervisor_150 rfl (lv_at hl 0 rfl) ?_
              refine lv_iload_n hx hb d_Csrs_writeSupervisor_151 rfl (lv_at hl 2 rfl) ?_
              refine y_put (D := D) (ci := 3) (v := .int x1) (ty := .int) (C := R_Csrs) (T := F_Csrs) (N := 17) (ws' := wC h (upd q 14 x1)) hx hb hts i_Csrs t_Csrs t_Csrs_ok n_Csrs hown hK hP hD hS 0 rfl rfl 14 (by decide) (hts _ k_19) (fun _ h9 => h9) rfl (by decide +kernel) rfl rfl (Nat.le_of_ble_eq_true rfl) d_Csrs_writeSupervisor_152 rfl (fun H locs hP hD hS => ?_)
              refine lv_goto (tgt := 198) hx hb d_Csrs_writeSupervisor_155 (by decide) ?_
              exact rv (upd q 14 x1) hx hb hr hlocks hP hD hS d_Csrs_writeSupervisor_198 (by simp only [sp_Csrs_writeSupervisor, if_neg c_1, if_neg c_3, if_neg c_5, if_neg c_6, if_neg c_7, if_pos c_8])
            · by_cases c_9 : x0 = 323
              · refine lv_lookup (off := 157) (tgt := 158) hx hb d_Csrs_writeSupervisor_1 rfl (by rw [c_9]; rfl) (by decide) ?_
                refine lv_aload_n hx hb d_Csrs_writeSupervisor_158 rfl (lv_at hl 0 rfl) ?_
                refine lv_iload_n hx hb d_Csrs_writeSupervisor_159 rfl (lv_at hl 2 rfl) ?_
                refine y_put (D := D) (ci := 3) (v := .int x1) (ty := .int) (C := R_Csrs) (T := F_Csrs) (N := 17) (ws' := wC h (upd q 15 x1)) hx hb hts i_Csrs t_Csrs t_Csrs_ok n_Csrs hown hK hP hD hS 0 rfl rfl 15 (by decide) (hts _ k_20) (fun _ h9 => h9) rfl (by decide +kernel) rfl rfl (Nat.le_of_ble_eq_true rfl) d_Csrs_writeSupervisor_160 rfl (fun H locs hP hD hS => ?_)
                refine lv_goto (tgt := 198) hx hb d_Csrs_writeSupervisor_163 (by decide) ?_
                exact rv (upd q 15 x1) hx hb hr hlocks hP hD hS d_Csrs_writeSupervisor_198 (by simp only [sp_Csrs_writeSupervisor, if_neg c_1, if_neg c_3, if_neg c_5, if_neg c_6, if_neg c_7, if_neg c_8, if_pos c_9])
              · by_cases c_10 : x0 = 324
                · refine lv_lookup (off := 165) (tgt := 166) hx hb d_Csrs_writeSupervisor_1 rfl (by rw [c_10]; rfl) (by decide) ?_
                  refine lv_aload_n hx hb d_Csrs_writeSupervisor_166 rfl (lv_at hl 0 rfl) ?_
                  refine lv_aload_n hx hb d_Csrs_writeSupervisor_167 rfl (lv_at hl 0 rfl) ?_
                  refine va_get (D := D) (ci := 3) (v := .int (q 10)) (C := R_Csrs) (T := F_Csrs) (N := 17) hx hb hts i_Csrs hown hK hP 0 rfl rfl 10 (by decide) (hts _ k_15) (fun _ h9 => h9) rfl d_Csrs_writeSupervisor_168 ?_
                  refine lv_iload_n hx hb d_Csrs_writeSupervisor_171 rfl (lv_at hl 2 rfl) ?_
                  refine lv_aload_n hx hb d_Csrs_writeSupervisor_172 rfl (lv_at hl 0 rfl) ?_
                  refine va_get (D := D) (ci := 3) (v := .int (q 3)) (C := R_Csrs) (T := F_Csrs) (N := 17) hx hb hts i_Csrs hown hK hP 0 rfl rfl 3 (by decide) (hts _ k_8) (fun _ h9 => h9) rfl d_Csrs_writeSupervisor_173 ?_
                  refine lv_iconst (v := 2) hx hb d_Csrs_writeSupervisor_176 rfl ?_
                  refine lv_iand hx hb d_Csrs_writeSupervisor_177 ?_
                  refine xi (wr := [(h, .inr (3, csF q))]) (W2 := fun _ => wC h q) (xS (rest := [.ref h]) ⟨hx, hb, hml, hown, hts⟩ (c_Csrs_merged (q 10) x1 ((q 3) &&& 2)) mw_Csrs_merged ms_Csrs_merged k_143 ⟨rfl, rfl, Nat.le_of_ble_eq_true rfl, Nat.le_of_ble_eq_true rfl⟩ hK hP hD hS hA hF [] [] rfl rfl rfl rfl hl.1 rfl (Nat.le_of_ble_eq_true rfl) d_Csrs_writeSupervisor_178 ⟨Nat.zero_le _, Nat.zero_le _⟩) hP hD hS hA [] [0] [0] rfl rfl rfl (by decide) (fun _ => rfl) rfl (fun r_11 _ H locs h_11 hP hD hS => ?_)
                  subst h_11
                  refine y_put (D := D) (ci := 3) (v := .int (sp_Csrs_merged (q 10) x1 ((q 3) &&& 2))) (ty := .int) (C := R_Csrs) (T := F_Csrs) (N := 17) (ws' := wC h (upd q 10 (sp_Csrs_merged (q 10) x1 ((q 3) &&& 2)))) hx hb hts i_Csrs t_Csrs t_Csrs_ok n_Csrs hown hK hP hD hS 0 rfl rfl 10 (by decide) (hts _ k_15) (fun _ h9 => h9) rfl (by decide +kernel) rfl rfl (Nat.le_of_ble_eq_true rfl) d_Csrs_writeSupervisor_181 rfl (fun H locs hP hD hS => ?_)
                  refine lv_goto (tgt := 198) hx hb d_Csrs_writeSupervisor_184 (by decide) ?_
                  exact rv (upd q 10 (sp_Csrs_merged (q 10) x1 ((q 3) &&& 2))) hx hb hr hlocks hP hD hS d_Csrs_writeSupervisor_198 (by simp only [sp_Csrs_writeSupervisor, if_neg c_1, if_neg c_3, if_neg c_5, if_neg c_6, if_neg c_7, if_neg c_8, if_neg c_9, if_pos c_10])
                · by_cases c_12 : x0 = 384
                  · refine lv_lookup (off := 186) (tgt := 187) hx hb d_Csrs_writeSupervisor_1 rfl (by rw [c_12]; rfl) (by decide) ?_
                    refine lv_aload_n hx hb d_Csrs_writeSupervisor_187 rfl (lv_at hl 0 rfl) ?_
                    refine lv_iload_n hx hb d_Csrs_writeSupervisor_188 rfl (lv_at hl 2 rfl) ?_
                    refine lv_ldc (v := (-2143289345)) hx hb hown (hts _ k_144) d_Csrs_writeSupervisor_189 ?_
                    refine lv_iand hx hb d_Csrs_writeSupervisor_191 ?_
                    refine y_put (D := D) (ci := 3) (v := .int (x1 &&& (-2143289345))) (ty := .int) (C := R_Csrs) (T := F_Csrs) (N := 17) (ws' := wC h (upd q 16 (x1 &&& (-2143289345)))) hx hb hts i_Csrs t_Csrs t_Csrs_ok n_Csrs hown hK hP hD hS 0 rfl rfl 16 (by decide) (hts _ k_21) (fun _ h9 => h9) rfl (by decide +kernel) rfl rfl (Nat.le_of_ble_eq_true rfl) d_Csrs_writeSupervisor_192 rfl (fun H locs hP hD hS => ?_)
                    refine lv_goto (tgt := 198) hx hb d_Csrs_writeSupervisor_195 (by decide) ?_
                    exact rv (upd q 16 (x1 &&& (-2143289345))) hx hb hr hlocks hP hD hS d_Csrs_writeSupervisor_198 (by simp only [sp_Csrs_writeSupervisor, if_neg c_1, if_neg c_3, if_neg c_5, if_neg c_6, if_neg c_7, if_neg c_8, if_neg c_9, if_neg c_10, if_pos c_12])
                  · refine lv_lookup (off := 197) (tgt := 198) hx hb d_Csrs_writeSupervisor_1 rfl ((lv_osw (a := 256) c_1 rfl).trans ((lv_osw (a := 260) c_3 rfl).trans ((lv_osw (a := 261) c_5 rfl).trans ((lv_osw (a := 320) c_6 rfl).trans ((lv_osw (a := 321) c_7 rfl).trans ((lv_osw (a := 322) c_8 rfl).trans ((lv_osw (a := 323) c_9 rfl).trans ((lv_osw (a := 324) c_10 rfl).trans ((lv_osw (a := 384) c_12 rfl).trans (rfl)))))))))) (by decide) ?_
                    exact rv q hx hb hr hlocks hP hD hS d_Csrs_writeSupervisor_198 (by simp only [sp_Csrs_writeSupervisor, if_neg c_1, if_neg c_3, if_neg c_5, if_neg c_6, if_neg c_7, if_neg c_8, if_neg c_9, if_neg c_10, if_neg c_12])
def sp_Csrs_withoutLevelTwo (x0 : Int32)  : Int32 :=
  if (x0 &&& 6144) = 4096 then
    x0 &&& (-6145)
  else
    x0
set_option maxHeartbeats 4000000 in
set_option maxRecDepth 100000 in
theorem c_Csrs_withoutLevelTwo {l : Launch} {D : va_G} {g : Nat → Nat}  (x0 : Int32)   : CT l D g y_Csrs_withoutLevelTwo b_Csrs_withoutLevelTwo 1 (some .int) (rD 0) [.int x0] ([]) ([]) (Qi D (fun (r : Int32) (_ : Unit) => sp_Csrs_withoutLevelTwo x0 = r) (fun _ => [])) := by
  refine CT.of rfl (Nat.le_of_ble_eq_true rfl) (fun p e s m below meth c A ls hx hb hr hml hts hown hlocks hA hP hK hD hF hS hl => ?_)
  have hl : lv_has ls 1 [(0, .int x0)] := hl
  refine lv_iload_n hx hb d_Csrs_withoutLevelTwo_0 rfl (lv_at hl 0 rfl) ?_
  refine lv_sipush (v := 6144) hx hb d_Csrs_withoutLevelTwo_1 rfl ?_
  refine lv_iand hx hb d_Csrs_withoutLevelTwo_4 ?_
  refine lv_sipush (v := 4096) hx hb d_Csrs_withoutLevelTwo_5 rfl ?_
  refine lv_icmp_ne (tgt := 19) hx hb d_Csrs_withoutLevelTwo_8 (by decide) (fun c_1 => ?_) (fun c_1 => ?_)
  · refine lv_iload_n hx hb d_Csrs_withoutLevelTwo_19 rfl (lv_at hl 0 rfl) ?_
    exact ri () hx hb hr hlocks hP hD hS d_Csrs_withoutLevelTwo_20 (by simp only [sp_Csrs_withoutLevelTwo, if_neg c_1])
  · refine lv_iload_n hx hb d_Csrs_withoutLevelTwo_11 rfl (lv_at hl 0 rfl) ?_
    refine lv_sipush (v := (-6145)) hx hb d_Csrs_withoutLevelTwo_12 rfl ?_
    refine lv_iand hx hb d_Csrs_withoutLevelTwo_15 ?_
    refine lv_goto (tgt := 20) hx hb d_Csrs_withoutLevelTwo_16 (by decide) ?_
    exact ri () hx hb hr hlocks hP hD hS d_Csrs_withoutLevelTwo_20 (by simp only [sp_Csrs_withoutLevelTwo, if_pos c_1])
def sp_Csrs_writeMachine (x0 : Int32) (x1 : Int32) (q : Nat → Int32) : Nat → Int32 :=
  if x0 = 768 then
    (upd q 1 (sp_Csrs_withoutLevelTwo (x1 &&& 924074)))
  else
    if x0 = 770 then
      (upd q 2 (x1 &&& 46079))
    else
      if x0 = 771 then
        (upd q 3 (x1 &&& 546))
      else
        if x0 = 772 then
          (upd q 4 (x1 &&& 2730))
        else
          if x0 = 773 then
            (upd q 5 (x1 &&& (-4)))
          else
            if x0 = 832 then
              (upd q 7 x1)
            else
              if x0 = 833 then
                (upd q 6 (x1 &&& (-4)))
              else
                if x0 = 834 then
                  (upd q 8 x1)
                else
                  if x0 = 835 then
                    (upd q 9 x1)
                  else
                    if x0 = 836 then
                      (upd q 10 (x1 &&& 546))
                    else
                      q
set_option maxHeartbeats 4000000 in
set_option maxRecDepth 100000 in
theorem c_Csrs_writeMachine {l : Launch} {D : va_G} {g : Nat → Nat} (h : Nat) (x0 : Int32) (x1 : Int32) (q : Nat → Int32)  : CT l D g y_Csrs_writeMachine b_Csrs_writeMachine 3 none (rD 1) [.ref h, .int x0, .int x1] (wC h q) ([]) (Qv D (fun (u : Nat → Int32) => sp_Csrs_writeMachine x0 x1 q = u) (fun u => wC h u)) := by
  refine CT.of rfl (Nat.le_of_ble_eq_true rfl) (fun p e s m below meth c A ls hx hb hr hml hts hown hlocks hA hP hK hD hF hS hl => ?_)
  have hl : lv_has ls 3 [(0, .ref h), (1, .int x0), (2, .int x1)] := hl
  refine lv_iload_n hx hb d_Csrs_writeMachine_0 rfl (lv_at hl 1 rfl) ?_
  by_cases c_1 : x0 = 768
  · refine lv_lookup (off := 91) (tgt := 92) hx hb d_Csrs_writeMachine_1 rfl (by rw [c_1]; rfl) (by decide) ?_
    refine lv_aload_n hx hb d_Csrs_writeMachine_92 rfl (lv_at hl 0 rfl) ?_
    refine lv_iload_n hx hb d_Csrs_writeMachine_93 rfl (lv_at hl 2 rfl) ?_
    refine lv_ldc (v := 924074) hx hb hown (hts _ k_145) d_Csrs_writeMachine_94 ?_
    refine lv_iand hx hb d_Csrs_writeMachine_96 ?_
    refine xi (wr := [(h, .inr (3, csF q))]) (W2 := fun _ => wC h q) (xS (rest := [.ref h]) ⟨hx, hb, hml, hown, hts⟩ (c_Csrs_withoutLevelTwo (x1 &&& 924074)) mw_Csrs_withoutLevelTwo ms_Csrs_withoutLevelTwo k_146 ⟨rfl, rfl, Nat.le_of_ble_eq_true rfl, Nat.le_of_ble_eq_true rfl⟩ hK hP hD hS hA hF [] [] rfl rfl rfl rfl hl.1 rfl (Nat.le_of_ble_eq_true rfl) d_Csrs_writeMachine_97 ⟨Nat.zero_le _, Nat.zero_le _⟩) hP hD hS hA [] [0] [0] rfl rfl rfl (by decide) (fun _ => rfl) rfl (fun r_2 _ H locs h_2 hP hD hS => ?_)
    subst h_2
    refine y_put (D := D) (ci := 3) (v := .int (sp_Csrs_withoutLevelTwo (x1 &&& 924074))) (ty := .int) (C := R_Csrs) (T := F_Csrs) (N := 17) (ws' := wC h (upd q 1 (sp_Csrs_withoutLevelTwo (x1 &&& 924074)))) hx hb hts i_Csrs t_Csrs t_Csrs_ok n_Csrs hown hK hP hD hS 0 rfl rfl 1 (by decide) (hts _ k_6) (fun _ h9 => h9) rfl (by decide +kernel) rfl rfl (Nat.le_of_ble_eq_true rfl) d_Csrs_writeMachine_100 rfl (fun H locs hP hD hS => ?_)
    refine lv_goto (tgt := 199) hx hb d_Csrs_writeMachine_103 (by decide) ?_
    exact rv (upd q 1 (sp_Csrs_withoutLevelTwo (x1 &&& 924074))) hx hb hr hlocks hP hD hS d_Csrs_writeMachine_199 (by simp only [sp_Csrs_writeMachine, if_pos c_1])
  · by_cases c_3 : x0 = 770
    · refine lv_lookup (off := 105) (tgt := 106) hx hb d_Csrs_writeMachine_1 rfl (by rw [c_3]; rfl) (by decide) ?_
      refine lv_aload_n hx hb d_Csrs_writeMachine_106 rfl (lv_at hl 0 rfl) ?_
      refine lv_iload_n hx hb d_Csrs_writeMachine_107 rfl (lv_at hl 2 rfl) ?_
      refine lv_ldc (v := 46079) hx hb hown (hts _ k_147) d_Csrs_writeMachine_108 ?_
      refine lv_iand hx hb d_Csrs_writeMachine_110 ?_
      refine y_put (D := D) (ci := 3) (v := .int (x1 &&& 46079)) (ty := .int) (C := R_Csrs) (T := F_Csrs) (N := 17) (ws' := wC h (upd q 2 (x1 &&& 46079))) hx hb hts i_Csrs t_Csrs t_Csrs_ok n_Csrs hown hK hP hD hS 0 rfl rfl 2 (by decide) (hts _ k_7) (fun _ h9 => h9) rfl (by decide +kernel) rfl rfl (Nat.le_of_ble_eq_true rfl) d_Csrs_writeMachine_111 rfl (fun H locs hP hD hS => ?_)
      refine lv_goto (tgt := 199) hx hb d_Csrs_writeMachine_114 (by decide) ?_
      exact rv (upd q 2 (x1 &&& 46079)) hx hb hr hlocks hP hD hS d_Csrs_writeMachine_199 (by simp only [sp_Csrs_writeMachine, if_neg c_1, if_pos c_3])
    · by_cases c_4 : x0 = 771
      · refine lv_lookup (off := 116) (tgt := 117) hx hb d_Csrs_writeMachine_1 rfl (by rw [c_4]; rfl) (by decide) ?_
        refine lv_aload_n hx hb d_Csrs_writeMachine_117 rfl (lv_at hl 0 rfl) ?_
        refine lv_iload_n hx hb d_Csrs_writeMachine_118 rfl (lv_at hl 2 rfl) ?_
        refine lv_sipush (v := 546) hx hb d_Csrs_writeMachine_119 rfl ?_
        refine lv_iand hx hb d_Csrs_writeMachine_122 ?_
        refine y_put (D := D) (ci := 3) (v := .int (x1 &&& 546)) (ty := .int) (C := R_Csrs) (T := F_Csrs) (N := 17) (ws' := wC h (upd q 3 (x1 &&& 546))) hx hb hts i_Csrs t_Csrs t_Csrs_ok n_Csrs hown hK hP hD hS 0 rfl rfl 3 (by decide) (hts _ k_8) (fun _ h9 => h9) rfl (by decide +kernel) rfl rfl (Nat.le_of_ble_eq_true rfl) d_Csrs_writeMachine_123 rfl (fun H locs hP hD hS => ?_)
        refine lv_goto (tgt := 199) hx hb d_Csrs_writeMachine_126 (by decide) ?_
        exact rv (upd q 3 (x1 &&& 546)) hx hb hr hlocks hP hD hS d_Csrs_writeMachine_199 (by simp only [sp_Csrs_writeMachine, if_neg c_1, if_neg c_3, if_pos c_4])
      · by_cases c_5 : x0 = 772
        · refine lv_lookup (off := 128) (tgt := 129) hx hb d_Csrs_writeMachine_1 rfl (by rw [c_5]; rfl) (by decide) ?_
          refine lv_aload_n hx hb d_Csrs_writeMachine_129 rfl (lv_at hl 0 rfl) ?_
          refine lv_iload_n hx hb d_Csrs_writeMachine_130 rfl (lv_at hl 2 rfl) ?_
          refine lv_sipush (v := 2730) hx hb d_Csrs_writeMachine_131 rfl ?_
          refine lv_iand hx hb d_Csrs_writeMachine_134 ?_
          refine y_put (D := D) (ci := 3) (v := .int (x1 &&& 2730)) (ty := .int) (C := R_Csrs) (T := F_Csrs) (N := 17) (ws' := wC h (upd q 4 (x1 &&& 2730))) hx hb hts i_Csrs t_Csrs t_Csrs_ok n_Csrs hown hK hP hD hS 0 rfl rfl 4 (by decide) (hts _ k_9) (fun _ h9 => h9) rfl (by decide +kernel) rfl rfl (Nat.le_of_ble_eq_true rfl) d_Csrs_writeMachine_135 rfl (fun H locs hP hD hS => ?_)
          refine lv_goto (tgt := 199) hx hb d_Csrs_writeMachine_138 (by decide) ?_
          exact rv (upd q 4 (x1 &&& 2730)) hx hb hr hlocks hP hD hS d_Csrs_writeMachine_199 (by simp only [sp_Csrs_writeMachine, if_neg c_1, if_neg c_3, if_neg c_4, if_pos c_5])
        · by_cases c_6 : x0 = 773
          · refine lv_lookup (off := 140) (tgt := 141) hx hb d_Csrs_writeMachine_1 rfl (by rw [c_6]; rfl) (by decide) ?_
            refine lv_aload_n hx hb d_Csrs_writeMachine_141 rfl (lv_at hl 0 rfl) ?_
            refine lv_iload_n hx hb d_Csrs_writeMachine_142 rfl (lv_at hl 2 rfl) ?_
            refine lv_bipush (v := (-4)) hx hb d_Csrs_writeMachine_143 rfl ?_
            refine lv_iand hx hb d_Csrs_writeMachine_145 ?_
            refine y_put (D := D) (ci := 3) (v := .int (x1 &&& (-4))) (ty := .int) (C := R_Csrs) (T := F_Csrs) (N := 17) (ws' := wC h (upd q 5 (x1 &&& (-4)))) hx hb hts i_Csrs t_Csrs t_Csrs_ok n_Csrs hown hK hP hD hS 0 rfl rfl 5 (by decide) (hts _ k_10) (fun _ h9 => h9) rfl (by decide +kernel) rfl rfl (Nat.le_of_ble_eq_true rfl) d_Csrs_writeMachine_146 rfl (fun H locs hP hD hS => ?_)
            refine lv_goto (tgt := 199) hx hb d_Csrs_writeMachine_149 (by decide) ?_
            exact rv (upd q 5 (x1 &&& (-4))) hx hb hr hlocks hP hD hS d_Csrs_writeMachine_199 (by simp only [sp_Csrs_writeMachine, if_neg c_1, if_neg c_3, if_neg c_4, if_neg c_5, if_pos c_6])
          · by_cases c_7 : x0 = 832
            · refine lv_lookup (off := 151) (tgt := 152) hx hb d_Csrs_writeMachine_1 rfl (by rw [c_7]; rfl) (by decide) ?_
              refine lv_aload_n hx hb d_Csrs_writeMachine_152 rfl (lv_at hl 0 rfl) ?_
              refine lv_iload_n hx hb d_Csrs_writeMachine_153 rfl (lv_at hl 2 rfl) ?_
              refine y_put (D := D) (ci := 3) (v := .int x1) (ty := .int) (C := R_Csrs) (T := F_Csrs) (N := 17) (ws' := wC h (upd q 7 x1)) hx hb hts i_Csrs t_Csrs t_Csrs_ok n_Csrs hown hK hP hD hS 0 rfl rfl 7 (by decide) (hts _ k_12) (fun _ h9 => h9) rfl (by decide +kernel) rfl rfl (Nat.le_of_ble_eq_true rfl) d_Csrs_writeMachine_154 rfl (fun H locs hP hD hS => ?_)
              refine lv_goto (tgt := 199) hx hb d_Csrs_writeMachine_157 (by decide) ?_
              exact rv (upd q 7 x1) hx hb hr hlocks hP hD hS d_Csrs_writeMachine_199 (by simp only [sp_Csrs_writeMachine, if_neg c_1, if_neg c_3, if_neg c_4, if_neg c_5, if_neg c_6, if_pos c_7])
            · by_cases c_8 : x0 = 833
              · refine lv_lookup (off := 159) (tgt := 160) hx hb d_Csrs_writeMachine_1 rfl (by rw [c_8]; rfl) (by decide) ?_
                refine lv_aload_n hx hb d_Csrs_writeMachine_160 rfl (lv_at hl 0 rfl) ?_
                refine lv_iload_n hx hb d_Csrs_writeMachine_161 rfl (lv_at hl 2 rfl) ?_
                refine lv_bipush (v := (-4)) hx hb d_Csrs_writeMachine_162 rfl ?_
                refine lv_iand hx hb d_Csrs_writeMachine_164 ?_
                refine y_put (D := D) (ci := 3) (v := .int (x1 &&& (-4))) (ty := .int) (C := R_Csrs) (T := F_Csrs) (N := 17) (ws' := wC h (upd q 6 (x1 &&& (-4)))) hx hb hts i_Csrs t_Csrs t_Csrs_ok n_Csrs hown hK hP hD hS 0 rfl rfl 6 (by decide) (hts _ k_11) (fun _ h9 => h9) rfl (by decide +kernel) rfl rfl (Nat.le_of_ble_eq_true rfl) d_Csrs_writeMachine_165 rfl (fun H locs hP hD hS => ?_)
                refine lv_goto (tgt := 199) hx hb d_Csrs_writeMachine_168 (by decide) ?_
                exact rv (upd q 6 (x1 &&& (-4))) hx hb hr hlocks hP hD hS d_Csrs_writeMachine_199 (by simp only [sp_Csrs_writeMachine, if_neg c_1, if_neg c_3, if_neg c_4, if_neg c_5, if_neg c_6, if_neg c_7, if_pos c_8])
              · by_cases c_9 : x0 = 834
                · refine lv_lookup (off := 170) (tgt := 171) hx hb d_Csrs_writeMachine_1 rfl (by rw [c_9]; rfl) (by decide) ?_
                  refine lv_aload_n hx hb d_Csrs_writeMachine_171 rfl (lv_at hl 0 rfl) ?_
                  refine lv_iload_n hx hb d_Csrs_writeMachine_172 rfl (lv_at hl 2 rfl) ?_
                  refine y_put (D := D) (ci := 3) (v := .int x1) (ty := .int) (C := R_Csrs) (T := F_Csrs) (N := 17) (ws' := wC h (upd q 8 x1)) hx hb hts i_Csrs t_Csrs t_Csrs_ok n_Csrs hown hK hP hD hS 0 rfl rfl 8 (by decide) (hts _ k_13) (fun _ h9 => h9) rfl (by decide +kernel) rfl rfl (Nat.le_of_ble_eq_true rfl) d_Csrs_writeMachine_173 rfl (fun H locs hP hD hS => ?_)
                  refine lv_goto (tgt := 199) hx hb d_Csrs_writeMachine_176 (by decide) ?_
                  exact rv (upd q 8 x1) hx hb hr hlocks hP hD hS d_Csrs_writeMachine_199 (by simp only [sp_Csrs_writeMachine, if_neg c_1, if_neg c_3, if_neg c_4, if_neg c_5, if_neg c_6, if_neg c_7, if_neg c_8, if_pos c_9])
                · by_cases c_10 : x0 = 835
                  · refine lv_lookup (off := 178) (tgt := 179) hx hb d_Csrs_writeMachine_1 rfl (by rw [c_10]; rfl) (by decide) ?_
                    refine lv_aload_n hx hb d_Csrs_writeMachine_179 rfl (lv_at hl 0 rfl) ?_
                    refine lv_iload_n hx hb d_Csrs_writeMachine_180 rfl (lv_at hl 2 rfl) ?_
                    refine y_put (D := D) (ci := 3) (v := .int x1) (ty := .int) (C := R_Csrs) (T := F_Csrs) (N := 17) (ws' := wC h (upd q 9 x1)) hx hb hts i_Csrs t_Csrs t_Csrs_ok n_Csrs hown hK hP hD hS 0 rfl rfl 9 (by decide) (hts _ k_14) (fun _ h9 => h9) rfl (by decide +kernel) rfl rfl (Nat.le_of_ble_eq_true rfl) d_Csrs_writeMachine_181 rfl (fun H locs hP hD hS => ?_)
                    refine lv_goto (tgt := 199) hx hb d_Csrs_writeMachine_184 (by decide) ?_
                    exact rv (upd q 9 x1) hx hb hr hlocks hP hD hS d_Csrs_writeMachine_199 (by simp only [sp_Csrs_writeMachine, if_neg c_1, if_neg c_3, if_neg c_4, if_neg c_5, if_neg c_6, if_neg c_7, if_neg c_8, if_neg c_9, if_pos c_10])
                  · by_cases c_11 : x0 = 836
                    · refine lv_lookup (off := 186) (tgt := 187) hx hb d_Csrs_writeMachine_1 rfl (by rw [c_11]; rfl) (by decide) ?_
                      refine lv_aload_n hx hb d_Csrs_writeMachine_187 rfl (lv_at hl 0 rfl) ?_
                      refine lv_iload_n hx hb d_Csrs_writeMachine_188 rfl (lv_at hl 2 rfl) ?_
                      refine lv_sipush (v := 546) hx hb d_Csrs_writeMachine_189 rfl ?_
                      refine lv_iand hx hb d_Csrs_writeMachine_192 ?_
                      refine y_put (D := D) (ci := 3) (v := .int (x1 &&& 546)) (ty := .int) (C := R_Csrs) (T := F_Csrs) (N := 17) (ws' := wC h (upd q 10 (x1 &&& 546))) hx hb hts i_Csrs t_Csrs t_Csrs_ok n_Csrs hown hK hP hD hS 0 rfl rfl 10 (by decide) (hts _ k_15) (fun _ h9 => h9) rfl (by decide +kernel) rfl rfl (Nat.le_of_ble_eq_true rfl) d_Csrs_writeMachine_193 rfl (fun H locs hP hD hS => ?_)
                      refine lv_goto (tgt := 199) hx hb d_Csrs_writeMachine_196 (by decide) ?_
                      exact rv (upd q 10 (x1 &&& 546)) hx hb hr hlocks hP hD hS d_Csrs_writeMachine_199 (by simp only [sp_Csrs_writeMachine, if_neg c_1, if_neg c_3, if_neg c_4, if_neg c_5, if_neg c_6, if_neg c_7, if_neg c_8, if_neg c_9, if_neg c_10, if_pos c_11])
                    · refine lv_lookup (off := 198) (tgt := 199) hx hb d_Csrs_writeMachine_1 rfl ((lv_osw (a := 768) c_1 rfl).trans ((lv_osw (a := 770) c_3 rfl).trans ((lv_osw (a := 771) c_4 rfl).trans ((lv_osw (a := 772) c_5 rfl).trans ((lv_osw (a := 773) c_6 rfl).trans ((lv_osw (a := 832) c_7 rfl).trans ((lv_osw (a := 833) c_8 rfl).trans ((lv_osw (a := 834) c_9 rfl).trans ((lv_osw (a := 835) c_10 rfl).trans ((lv_osw (a := 836) c_11 rfl).trans (rfl))))))))))) (by decide) ?_
                      exact rv q hx hb hr hlocks hP hD hS d_Csrs_writeMachine_199 (by simp only [sp_Csrs_writeMachine, if_neg c_1, if_neg c_3, if_neg c_4, if_neg c_5, if_neg c_6, if_neg c_7, if_neg c_8, if_neg c_9, if_neg c_10, if_neg c_11])
def sp_Csrs_write (x0 : Int32) (x1 : Int32) (q : Nat → Int32) : Nat → Int32 :=
  if 768 ≤ x0 then
    let u_2 := sp_Csrs_writeMachine x0 x1 q
    u_2
  else
    let u_3 := sp_Csrs_writeSupervisor x0 x1 q
    u_3
set_option maxHeartbeats 4000000 in
set_option maxRecDepth 100000 in
theorem c_Csrs_write {l : Launch} {D : va_G} {g : Nat → Nat} (h : Nat) (x0 : Int32) (x1 : Int32) (q : Nat → Int32)  : CT l D g y_Csrs_write b_Csrs_write 3 none (rD 2) [.ref h, .int x0, .int x1] (wC h q) ([]) (Qv D (fun (u : Nat → Int32) => sp_Csrs_write x0 x1 q = u) (fun u => wC h u)) := by
  refine CT.of rfl (Nat.le_of_ble_eq_true rfl) (fun p e s m below meth c A ls hx hb hr hml hts hown hlocks hA hP hK hD hF hS hl => ?_)
  have hl : lv_has ls 3 [(0, .ref h), (1, .int x0), (2, .int x1)] := hl
  refine lv_iload_n hx hb d_Csrs_write_0 rfl (lv_at hl 1 rfl) ?_
  refine lv_sipush (v := 768) hx hb d_Csrs_write_1 rfl ?_
  refine lv_icmp_ge (tgt := 16) hx hb d_Csrs_write_4 (by decide) (fun c_1 => ?_) (fun c_1 => ?_)
  · refine lv_aload_n hx hb d_Csrs_write_16 rfl (lv_at hl 0 rfl) ?_
    refine lv_iload_n hx hb d_Csrs_write_17 rfl (lv_at hl 1 rfl) ?_
    refine lv_iload_n hx hb d_Csrs_write_18 rfl (lv_at hl 2 rfl) ?_
    refine xv (wr := []) (W2 := fun u9 => wC h u9) (xV (rest := []) ⟨hx, hb, hml, hown, hts⟩ (c_Csrs_writeMachine h x0 x1 q) mw_Csrs_writeMachine mv_Csrs_writeMachine k_148 ⟨rfl, rfl, Nat.le_of_ble_eq_true rfl, Nat.le_of_ble_eq_true rfl⟩ hK hP hD hS hA hF [0] [] rfl rfl rfl 0 3 rfl rfl rfl rfl hl.1 rfl (Nat.le_of_ble_eq_true rfl) d_Csrs_write_19 ⟨Nat.zero_le _, Nat.zero_le _⟩) hP hD hS hA [0] [] [0] rfl rfl rfl (by decide) (fun _ => rfl) rfl (fun u_2 H locs h_2 hP hD hS => ?_)
    exact rv u_2 hx hb hr hlocks hP hD hS d_Csrs_write_22 (by simp only [sp_Csrs_write, h_2, if_pos c_1])
  · refine lv_aload_n hx hb d_Csrs_write_7 rfl (lv_at hl 0 rfl) ?_
    refine lv_iload_n hx hb d_Csrs_write_8 rfl (lv_at hl 1 rfl) ?_
    refine lv_iload_n hx hb d_Csrs_write_9 rfl (lv_at hl 2 rfl) ?_
    refine xv (wr := []) (W2 := fun u9 => wC h u9) (xV (rest := []) ⟨hx, hb, hml, hown, hts⟩ (c_Csrs_writeSupervisor h x0 x1 q) mw_Csrs_writeSupervisor mv_Csrs_writeSupervisor k_149 ⟨rfl, rfl, Nat.le_of_ble_eq_true rfl, Nat.le_of_ble_eq_true rfl⟩ hK hP hD hS hA hF [0] [] rfl rfl rfl 0 3 rfl rfl rfl rfl hl.1 rfl (Nat.le_of_ble_eq_true rfl) d_Csrs_write_10 ⟨Nat.zero_le _, Nat.zero_le _⟩) hP hD hS hA [0] [] [0] rfl rfl rfl (by decide) (fun _ => rfl) rfl (fun u_3 H locs h_3 hP hD hS => ?_)
    refine lv_goto (tgt := 22) hx hb d_Csrs_write_13 (by decide) ?_
    exact rv u_3 hx hb hr hlocks hP hD hS d_Csrs_write_22 (by simp only [sp_Csrs_write, h_3, if_neg c_1])
def sp_Csrs_handsDownTrap (x0 : Int32) (q : Nat → Int32) : Int32 :=
  if ((shr (q 2) x0) &&& 1) = 0 then
    0
  else
    1
set_option maxHeartbeats 4000000 in
set_option maxRecDepth 100000 in
theorem c_Csrs_handsDownTrap {l : Launch} {D : va_G} {g : Nat → Nat} (h : Nat) (x0 : Int32) (q : Nat → Int32)  : CT l D g y_Csrs_handsDownTrap b_Csrs_handsDownTrap 2 (some .boolean) (rD 0) [.ref h, .int x0] (wC h q) ([]) (Qi D (fun (r : Int32) (_ : Unit) => sp_Csrs_handsDownTrap x0 q = r ∧ (r = 0 ∨ r = 1)) (fun _ => wC h q)) := by
  refine CT.of rfl (Nat.le_of_ble_eq_true rfl) (fun p e s m below meth c A ls hx hb hr hml hts hown hlocks hA hP hK hD hF hS hl => ?_)
  have hl : lv_has ls 2 [(0, .ref h), (1, .int x0)] := hl
  refine lv_aload_n hx hb d_Csrs_handsDownTrap_0 rfl (lv_at hl 0 rfl) ?_
  refine va_get (D := D) (ci := 3) (v := .int (q 2)) (C := R_Csrs) (T := F_Csrs) (N := 17) hx hb hts i_Csrs hown hK hP 0 rfl rfl 2 (by decide) (hts _ k_7) (fun _ h9 => h9) rfl d_Csrs_handsDownTrap_1 ?_
  refine lv_iload_n hx hb d_Csrs_handsDownTrap_4 rfl (lv_at hl 1 rfl) ?_
  refine y_ishr hx hb d_Csrs_handsDownTrap_5 ?_
  refine lv_iconst (v := 1) hx hb d_Csrs_handsDownTrap_6 rfl ?_
  refine lv_iand hx hb d_Csrs_handsDownTrap_7 ?_
  refine lv_if_eq (tgt := 15) hx hb d_Csrs_handsDownTrap_8 (by decide) (fun c_1 => ?_) (fun c_1 => ?_)
  · refine lv_iconst (v := 0) hx hb d_Csrs_handsDownTrap_15 rfl ?_
    exact rz () hx hb hr hlocks rfl hP hD hS d_Csrs_handsDownTrap_16 ⟨by simp only [sp_Csrs_handsDownTrap, if_pos c_1], Or.inl rfl⟩
  · refine lv_iconst (v := 1) hx hb d_Csrs_handsDownTrap_11 rfl ?_
    refine lv_goto (tgt := 16) hx hb d_Csrs_handsDownTrap_12 (by decide) ?_
    exact rz () hx hb hr hlocks rfl hP hD hS d_Csrs_handsDownTrap_16 ⟨by simp only [sp_Csrs_handsDownTrap, if_neg c_1], Or.inr rfl⟩
end
section
def sp_Clint_restart  (w : Nat → Int32) : Nat → Int32 :=
  (upd (upd (upd (upd (upd (upd (upd (upd w 0 0) 1 0) 2 (-1)) 3 (-1)) 4 (-1)) 5 (-1)) 6 0) 7 0)
set_option maxHeartbeats 4000000 in
set_option maxRecDepth 100000 in
theorem c_Clint_restart {l : Launch} {D : va_G} {g : Nat → Nat} (a : Nat → Nat) (k : Nat → ClassId)  (w : Nat → Int32)  : CT l D g y_Clint_restart b_Clint_restart 2 none (rD 0) [.ref (a 1)] (wK a k w) ([(k 0, .int)]) (Qv D (fun (u : Nat → Int32) => sp_Clint_restart w = u) (fun u => wK a k u)) := by
  refine CT.of rfl (Nat.le_of_ble_eq_true rfl) (fun p e s m below meth c A ls hx hb hr hml hts hown hlocks hA hP hK hD hF hS hl => ?_)
  have hl : lv_has ls 2 [(0, .ref (a 1))] := hl
  refine lv_iconst (v := 0) hx hb d_Clint_restart_0 rfl ?_
  refine lv_istore_n (lv' := [(1, .int 0), (0, .ref (a 1))]) hx hb d_Clint_restart_1 rfl hl (by decide) rfl (fun ls hl => ?_)
  refine lv_iload_n hx hb d_Clint_restart_2 rfl (lv_at hl 0 rfl) ?_
  refine lv_aload_n hx hb d_Clint_restart_3 rfl (lv_at hl 1 rfl) ?_
  refine va_get (D := D) (ci := 2) (v := .ref (a 2)) (C := R_Clint) (T := F_Clint) (N := 1) hx hb hts i_Clint hown hK hP 0 rfl rfl 0 (by decide) (hts _ k_0) (fun _ h9 => h9) rfl d_Clint_restart_4 ?_
  refine va_alen (v := 8) hx hb hK hP 1 0 rfl rfl rfl d_Clint_restart_7 ?_
  refine lv_icmp_ge (tgt := 39) hx hb d_Clint_restart_8 (by decide) (fun h9 => absurd h9 (by decide)) (fun _ => ?_)
  refine lv_aload_n hx hb d_Clint_restart_11 rfl (lv_at hl 1 rfl) ?_
  refine va_get (D := D) (ci := 2) (v := .ref (a 2)) (C := R_Clint) (T := F_Clint) (N := 1) hx hb hts i_Clint hown hK hP 0 rfl rfl 0 (by decide) (hts _ k_0) (fun _ h9 => h9) rfl d_Clint_restart_12 ?_
  refine lv_iload_n hx hb d_Clint_restart_15 rfl (lv_at hl 0 rfl) ?_
  refine lv_iload_n hx hb d_Clint_restart_16 rfl (lv_at hl 0 rfl) ?_
  refine lv_iconst (v := 2) hx hb d_Clint_restart_17 rfl ?_
  refine lv_icmp_lt (tgt := 31) hx hb d_Clint_restart_18 (by decide) (fun _ => ?_) (fun h9 => absurd (by decide) h9)
  refine lv_iconst (v := 0) hx hb d_Clint_restart_31 rfl ?_
  refine y_iast (ws' := wK a k (upd w 0 0)) hx hb hK hP hD hS 1 0 rfl rfl (by unfold vp_in; decide) d_Clint_restart_32 rfl (fun H locs hP hD hS => ?_)
  refine lv_iinc (v := 1) (lv' := [(1, .int 1), (0, .ref (a 1))]) hx hb d_Clint_restart_33 hl (k := 0) rfl rfl (by decide) rfl (fun ls hl => ?_)
  refine lv_goto (tgt := 2) hx hb d_Clint_restart_36 (by decide) ?_
  refine lv_iload_n hx hb d_Clint_restart_2 rfl (lv_at hl 0 rfl) ?_
  refine lv_aload_n hx hb d_Clint_restart_3 rfl (lv_at hl 1 rfl) ?_
  refine va_get (D := D) (ci := 2) (v := .ref (a 2)) (C := R_Clint) (T := F_Clint) (N := 1) hx hb hts i_Clint hown hK hP 0 rfl rfl 0 (by decide) (hts _ k_0) (fun _ h9 => h9) rfl d_Clint_restart_4 ?_
  refine va_alen (v := 8) hx hb hK hP 1 0 rfl rfl rfl d_Clint_restart_7 ?_
  refine lv_icmp_ge (tgt := 39) hx hb d_Clint_restart_8 (by decide) (fun h9 => absurd h9 (by decide)) (fun _ => ?_)
  refine lv_aload_n hx hb d_Clint_restart_11 rfl (lv_at hl 1 rfl) ?_
  refine va_get (D := D) (ci := 2) (v := .ref (a 2)) (C := R_Clint) (T := F_Clint) (N := 1) hx hb hts i_Clint hown hK hP 0 rfl rfl 0 (by decide) (hts _ k_0) (fun _ h9 => h9) rfl d_Clint_restart_12 ?_
  refine lv_iload_n hx hb d_Clint_restart_15 rfl (lv_at hl 0 rfl) ?_
  refine lv_iload_n hx hb d_Clint_restart_16 rfl (lv_at hl 0 rfl) ?_
  refine lv_iconst (v := 2) hx hb d_Clint_restart_17 rfl ?_
  refine lv_icmp_lt (tgt := 31) hx hb d_Clint_restart_18 (by decide) (fun _ => ?_) (fun h9 => absurd (by decide) h9)
  refine lv_iconst (v := 0) hx hb d_Clint_restart_31 rfl ?_
  refine y_iast (ws' := wK a k (upd (upd w 0 0) 1 0)) hx hb hK hP hD hS 1 0 rfl rfl (by unfold vp_in; decide) d_Clint_restart_32 rfl (fun H locs hP hD hS => ?_)
  refine lv_iinc (v := 2) (lv' := [(1, .int 2), (0, .ref (a 1))]) hx hb d_Clint_restart_33 hl (k := 0) rfl rfl (by decide) rfl (fun ls hl => ?_)
  refine lv_goto (tgt := 2) hx hb d_Clint_restart_36 (by decide) ?_
  refine lv_iload_n hx hb d_Clint_restart_2 rfl (lv_at hl 0 rfl) ?_
  refine lv_aload_n hx hb d_Clint_restart_3 rfl (lv_at hl 1 rfl) ?_
  refine va_get (D := D) (ci := 2) (v := .ref (a 2)) (C := R_Clint) (T := F_Clint) (N := 1) hx hb hts i_Clint hown hK hP 0 rfl rfl 0 (by decide) (hts _ k_0) (fun _ h9 => h9) rfl d_Clint_restart_4 ?_
  refine va_alen (v := 8) hx hb hK hP 1 0 rfl rfl rfl d_Clint_restart_7 ?_
  refine lv_icmp_ge (tgt := 39) hx hb d_Clint_restart_8 (by decide) (fun h9 => absurd h9 (by decide)) (fun _ => ?_)
  refine lv_aload_n hx hb d_Clint_restart_11 rfl (lv_at hl 1 rfl) ?_
  refine va_get (D := D) (ci := 2) (v := .ref (a 2)) (C := R_Clint) (T := F_Clint) (N := 1) hx hb hts i_Clint hown hK hP 0 rfl rfl 0 (by decide) (hts _ k_0) (fun _ h9 => h9) rfl d_Clint_restart_12 ?_
  refine lv_iload_n hx hb d_Clint_restart_15 rfl (lv_at hl 0 rfl) ?_
  refine lv_iload_n hx hb d_Clint_restart_16 rfl (lv_at hl 0 rfl) ?_
  refine lv_iconst (v := 2) hx hb d_Clint_restart_17 rfl ?_
  refine lv_icmp_lt (tgt := 31) hx hb d_Clint_restart_18 (by decide) (fun h9 => absurd h9 (by decide)) (fun _ => ?_)
  refine lv_iload_n hx hb d_Clint_restart_21 rfl (lv_at hl 0 rfl) ?_
  refine lv_bipush (v := 6) hx hb d_Clint_restart_22 rfl ?_
  refine lv_icmp_ge (tgt := 31) hx hb d_Clint_restart_24 (by decide) (fun h9 => absurd h9 (by decide)) (fun _ => ?_)
  refine lv_iconst (v := (-1)) hx hb d_Clint_restart_27 rfl ?_
  refine lv_goto (tgt := 32) hx hb d_Clint_restart_28 (by decide) ?_
  refine y_iast (ws' := wK a k (upd (upd (upd w 0 0) 1 0) 2 (-1))) hx hb hK hP hD hS 1 0 rfl rfl (by unfold vp_in; decide) d_Clint_restart_32 rfl (fun H locs hP hD hS => ?_)
  refine lv_iinc (v := 3) (lv' := [(1, .int 3), (0, .ref (a 1))]) hx hb d_Clint_restart_33 hl (k := 0) rfl rfl (by decide) rfl (fun ls hl => ?_)
  refine lv_goto (tgt := 2) hx hb d_Clint_restart_36 (by decide) ?_
  refine lv_iload_n hx hb d_Clint_restart_2 rfl (lv_at hl 0 rfl) ?_
  refine lv_aload_n hx hb d_Clint_restart_3 rfl (lv_at hl 1 rfl) ?_
  refine va_get (D := D) (ci := 2) (v := .ref (a 2)) (C := R_Clint) (T := F_Clint) (N := 1) hx hb hts i_Clint hown hK hP 0 rfl rfl 0 (by decide) (hts _ k_0) (fun _ h9 => h9) rfl d_Clint_restart_4 ?_
  refine va_alen (v := 8) hx hb hK hP 1 0 rfl rfl rfl d_Clint_restart_7 ?_
  refine lv_icmp_ge (tgt := 39) hx hb d_Clint_restart_8 (by decide) (fun h9 => absurd h9 (by decide)) (fun _ => ?_)
  refine lv_aload_n hx hb d_Clint_restart_11 rfl (lv_at hl 1 rfl) ?_
  refine va_get (D := D) (ci := 2) (v := .ref (a 2)) (C := R_Clint) (T := F_Clint) (N := 1) hx hb hts i_Clint hown hK hP 0 rfl rfl 0 (by decide) (hts _ k_0) (fun _ h9 => h9) rfl d_Clint_restart_12 ?_
  refine lv_iload_n hx hb d_Clint_restart_15 rfl (lv_at hl 0 rfl) ?_
  refine lv_iload_n hx hb d_Clint_restart_16 rfl (lv_at hl 0 rfl) ?_
  refine lv_iconst (v := 2) hx hb d_Clint_restart_17 rfl ?_
  refine lv_icmp_lt (tgt := 31) hx hb d_Clint_restart_18 (by decide) (fun h9 => absurd h9 (by decide)) (fun _ => ?_)
  refine lv_iload_n hx hb d_Clint_restart_21 rfl (lv_at hl 0 rfl) ?_
  refine lv_bipush (v := 6) hx hb d_Clint_restart_22 rfl ?_
  refine lv_icmp_ge (tgt := 31) hx hb d_Clint_restart_24 (by decide) (fun h9 => absurd h9 (by decide)) (fun _ => ?_)
  refine lv_iconst (v := (-1)) hx hb d_Clint_restart_27 rfl ?_
  refine lv_goto (tgt := 32) hx hb d_Clint_restart_28 (by decide) ?_
  refine y_iast (ws' := wK a k (upd (upd (upd (upd w 0 0) 1 0) 2 (-1)) 3 (-1))) hx hb hK hP hD hS 1 0 rfl rfl (by unfold vp_in; decide) d_Clint_restart_32 rfl (fun H locs hP hD hS => ?_)
  refine lv_iinc (v := 4) (lv' := [(1, .int 4), (0, .ref (a 1))]) hx hb d_Clint_restart_33 hl (k := 0) rfl rfl (by decide) rfl (fun ls hl => ?_)
  refine lv_goto (tgt := 2) hx hb d_Clint_restart_36 (by decide) ?_
  refine lv_iload_n hx hb d_Clint_restart_2 rfl (lv_at hl 0 rfl) ?_
  refine lv_aload_n hx hb d_Clint_restart_3 rfl (lv_at hl 1 rfl) ?_
  refine va_get (D := D) (ci := 2) (v := .ref (a 2)) (C := R_Clint) (T := F_Clint) (N := 1) hx hb hts i_Clint hown hK hP 0 rfl rfl 0 (by decide) (hts _ k_0) (fun _ h9 => h9) rfl d_Clint_restart_4 ?_
  refine va_alen (v := 8) hx hb hK hP 1 0 rfl rfl rfl d_Clint_restart_7 ?_
  refine lv_icmp_ge (tgt := 39) hx hb d_Clint_restart_8 (by decide) (fun h9 => absurd h9 (by decide)) (fun _ => ?_)
  refine lv_aload_n hx hb d_Clint_restart_11 rfl (lv_at hl 1 rfl) ?_
  refine va_get (D := D) (ci := 2) (v := .ref (a 2)) (C := R_Clint) (T := F_Clint) (N := 1) hx hb hts i_Clint hown hK hP 0 rfl rfl 0 (by decide) (hts _ k_0) (fun _ h9 => h9) rfl d_Clint_restart_12 ?_
  refine lv_iload_n hx hb d_Clint_restart_15 rfl (lv_at hl 0 rfl) ?_
  refine lv_iload_n hx hb d_Clint_restart_16 rfl (lv_at hl 0 rfl) ?_
  refine lv_iconst (v := 2) hx hb d_Clint_restart_17 rfl ?_
  refine lv_icmp_lt (tgt := 31) hx hb d_Clint_restart_18 (by decide) (fun h9 => absurd h9 (by decide)) (fun _ => ?_)
  refine lv_iload_n hx hb d_Clint_restart_21 rfl (lv_at hl 0 rfl) ?_
  refine lv_bipush (v := 6) hx hb d_Clint_restart_22 rfl ?_
  refine lv_icmp_ge (tgt := 31) hx hb d_Clint_restart_24 (by decide) (fun h9 => absurd h9 (by decide)) (fun _ => ?_)
  refine lv_iconst (v := (-1)) hx hb d_Clint_restart_27 rfl ?_
  refine lv_goto (tgt := 32) hx hb d_Clint_restart_28 (by decide) ?_
  refine y_iast (ws' := wK a k (upd (upd (upd (upd (upd w 0 0) 1 0) 2 (-1)) 3 (-1)) 4 (-1))) hx hb hK hP hD hS 1 0 rfl rfl (by unfold vp_in; decide) d_Clint_restart_32 rfl (fun H locs hP hD hS => ?_)
  refine lv_iinc (v := 5) (lv' := [(1, .int 5), (0, .ref (a 1))]) hx hb d_Clint_restart_33 hl (k := 0) rfl rfl (by decide) rfl (fun ls hl => ?_)
  refine lv_goto (tgt := 2) hx hb d_Clint_restart_36 (by decide) ?_
  refine lv_iload_n hx hb d_Clint_restart_2 rfl (lv_at hl 0 rfl) ?_
  refine lv_aload_n hx hb d_Clint_restart_3 rfl (lv_at hl 1 rfl) ?_
  refine va_get (D := D) (ci := 2) (v := .ref (a 2)) (C := R_Clint) (T := F_Clint) (N := 1) hx hb hts i_Clint hown hK hP 0 rfl rfl 0 (by decide) (hts _ k_0) (fun _ h9 => h9) rfl d_Clint_restart_4 ?_
  refine va_alen (v := 8) hx hb hK hP 1 0 rfl rfl rfl d_Clint_restart_7 ?_
  refine lv_icmp_ge (tgt := 39) hx hb d_Clint_restart_8 (by decide) (fun h9 => absurd h9 (by decide)) (fun _ => ?_)
  refine lv_aload_n hx hb d_Clint_restart_11 rfl (lv_at hl 1 rfl) ?_
  refine va_get (D := D) (ci := 2) (v := .ref (a 2)) (C := R_Clint) (T := F_Clint) (N := 1) hx hb hts i_Clint hown hK hP 0 rfl rfl 0 (by decide) (hts _ k_0) (fun _ h9 => h9) rfl d_Clint_restart_12 ?_
  refine lv_iload_n hx hb d_Clint_restart_15 rfl (lv_at hl 0 rfl) ?_
  refine lv_iload_n hx hb d_Clint_restart_16 rfl (lv_at hl 0 rfl) ?_
  refine lv_iconst (v := 2) hx hb d_Clint_restart_17 rfl ?_
  refine lv_icmp_lt (tgt := 31) hx hb d_Clint_restart_18 (by decide) (fun h9 => absurd h9 (by decide)) (fun _ => ?_)
  refine lv_iload_n hx hb d_Clint_restart_21 rfl (lv_at hl 0 rfl) ?_
  refine lv_bipush (v := 6) hx hb d_Clint_restart_22 rfl ?_
  refine lv_icmp_ge (tgt := 31) hx hb d_Clint_restart_24 (by decide) (fun h9 => absurd h9 (by decide)) (fun _ => ?_)
  refine lv_iconst (v := (-1)) hx hb d_Clint_restart_27 rfl ?_
  refine lv_goto (tgt := 32) hx hb d_Clint_restart_28 (by decide) ?_
  refine y_iast (ws' := wK a k (upd (upd (upd (upd (upd (upd w 0 0) 1 0) 2 (-1)) 3 (-1)) 4 (-1)) 5 (-1))) hx hb hK hP hD hS 1 0 rfl rfl (by unfold vp_in; decide) d_Clint_restart_32 rfl (fun H locs hP hD hS => ?_)
  refine lv_iinc (v := 6) (lv' := [(1, .int 6), (0, .ref (a 1))]) hx hb d_Clint_restart_33 hl (k := 0) rfl rfl (by decide) rfl (fun ls hl => ?_)
  refine lv_goto (tgt := 2) hx hb d_Clint_restart_36 (by decide) ?_
  refine lv_iload_n hx hb d_Clint_restart_2 rfl (lv_at hl 0 rfl) ?_
  refine lv_aload_n hx hb d_Clint_restart_3 rfl (lv_at hl 1 rfl) ?_
  refine va_get (D := D) (ci := 2) (v := .ref (a 2)) (C := R_Clint) (T := F_Clint) (N := 1) hx hb hts i_Clint hown hK hP 0 rfl rfl 0 (by decide) (hts _ k_0) (fun _ h9 => h9) rfl d_Clint_restart_4 ?_
  refine va_alen (v := 8) hx hb hK hP 1 0 rfl rfl rfl d_Clint_restart_7 ?_
  refine lv_icmp_ge (tgt := 39) hx hb d_Clint_restart_8 (by decide) (fun h9 => absurd h9 (by decide)) (fun _ => ?_)
  refine lv_aload_n hx hb d_Clint_restart_11 rfl (lv_at hl 1 rfl) ?_
  refine va_get (D := D) (ci := 2) (v := .ref (a 2)) (C := R_Clint) (T := F_Clint) (N := 1) hx hb hts i_Clint hown hK hP 0 rfl rfl 0 (by decide) (hts _ k_0) (fun _ h9 => h9) rfl d_Clint_restart_12 ?_
  refine lv_iload_n hx hb d_Clint_restart_15 rfl (lv_at hl 0 rfl) ?_
  refine lv_iload_n hx hb d_Clint_restart_16 rfl (lv_at hl 0 rfl) ?_
  refine lv_iconst (v := 2) hx hb d_Clint_restart_17 rfl ?_
  refine lv_icmp_lt (tgt := 31) hx hb d_Clint_restart_18 (by decide) (fun h9 => absurd h9 (by decide)) (fun _ => ?_)
  refine lv_iload_n hx hb d_Clint_restart_21 rfl (lv_at hl 0 rfl) ?_
  refine lv_bipush (v := 6) hx hb d_Clint_restart_22 rfl ?_
  refine lv_icmp_ge (tgt := 31) hx hb d_Clint_restart_24 (by decide) (fun _ => ?_) (fun h9 => absurd (by decide) h9)
  refine lv_iconst (v := 0) hx hb d_Clint_restart_31 rfl ?_
  refine y_iast (ws' := wK a k (upd (upd (upd (upd (upd (upd (upd w 0 0) 1 0) 2 (-1)) 3 (-1)) 4 (-1)) 5 (-1)) 6 0)) hx hb hK hP hD hS 1 0 rfl rfl (by unfold vp_in; decide) d_Clint_restart_32 rfl (fun H locs hP hD hS => ?_)
  refine lv_iinc (v := 7) (lv' := [(1, .int 7), (0, .ref (a 1))]) hx hb d_Clint_restart_33 hl (k := 0) rfl rfl (by decide) rfl (fun ls hl => ?_)
  refine lv_goto (tgt := 2) hx hb d_Clint_restart_36 (by decide) ?_
  refine lv_iload_n hx hb d_Clint_restart_2 rfl (lv_at hl 0 rfl) ?_
  refine lv_aload_n hx hb d_Clint_restart_3 rfl (lv_at hl 1 rfl) ?_
  refine va_get (D := D) (ci := 2) (v := .ref (a 2)) (C := R_Clint) (T := F_Clint) (N := 1) hx hb hts i_Clint hown hK hP 0 rfl rfl 0 (by decide) (hts _ k_0) (fun _ h9 => h9) rfl d_Clint_restart_4 ?_
  refine va_alen (v := 8) hx hb hK hP 1 0 rfl rfl rfl d_Clint_restart_7 ?_
  refine lv_icmp_ge (tgt := 39) hx hb d_Clint_restart_8 (by decide) (fun h9 => absurd h9 (by decide)) (fun _ => ?_)
  refine lv_aload_n hx hb d_Clint_restart_11 rfl (lv_at hl 1 rfl) ?_
  refine va_get (D := D) (ci := 2) (v := .ref (a 2)) (C := R_Clint) (T := F_Clint) (N := 1) hx hb hts i_Clint hown hK hP 0 rfl rfl 0 (by decide) (hts _ k_0) (fun _ h9 => h9) rfl d_Clint_restart_12 ?_
  refine lv_iload_n hx hb d_Clint_restart_15 rfl (lv_at hl 0 rfl) ?_
  refine lv_iload_n hx hb d_Clint_restart_16 rfl (lv_at hl 0 rfl) ?_
  refine lv_iconst (v := 2) hx hb d_Clint_restart_17 rfl ?_
  refine lv_icmp_lt (tgt := 31) hx hb d_Clint_restart_18 (by decide) (fun h9 => absurd h9 (by decide)) (fun _ => ?_)
  refine lv_iload_n hx hb d_Clint_restart_21 rfl (lv_at hl 0 rfl) ?_
  refine lv_bipush (v := 6) hx hb d_Clint_restart_22 rfl ?_
  refine lv_icmp_ge (tgt := 31) hx hb d_Clint_restart_24 (by decide) (fun _ => ?_) (fun h9 => absurd (by decide) h9)
  refine lv_iconst (v := 0) hx hb d_Clint_restart_31 rfl ?_
  refine y_iast (ws' := wK a k (upd (upd (upd (upd (upd (upd (upd (upd w 0 0) 1 0) 2 (-1)) 3 (-1)) 4 (-1)) 5 (-1)) 6 0) 7 0)) hx hb hK hP hD hS 1 0 rfl rfl (by unfold vp_in; decide) d_Clint_restart_32 rfl (fun H locs hP hD hS => ?_)
  refine lv_iinc (v := 8) (lv' := [(1, .int 8), (0, .ref (a 1))]) hx hb d_Clint_restart_33 hl (k := 0) rfl rfl (by decide) rfl (fun ls hl => ?_)
  refine lv_goto (tgt := 2) hx hb d_Clint_restart_36 (by decide) ?_
  refine lv_iload_n hx hb d_Clint_restart_2 rfl (lv_at hl 0 rfl) ?_
  refine lv_aload_n hx hb d_Clint_restart_3 rfl (lv_at hl 1 rfl) ?_
  refine va_get (D := D) (ci := 2) (v := .ref (a 2)) (C := R_Clint) (T := F_Clint) (N := 1) hx hb hts i_Clint hown hK hP 0 rfl rfl 0 (by decide) (hts _ k_0) (fun _ h9 => h9) rfl d_Clint_restart_4 ?_
  refine va_alen (v := 8) hx hb hK hP 1 0 rfl rfl rfl d_Clint_restart_7 ?_
  refine lv_icmp_ge (tgt := 39) hx hb d_Clint_restart_8 (by decide) (fun _ => ?_) (fun h9 => absurd (by decide) h9)
  exact rv (upd (upd (upd (upd (upd (upd (upd (upd w 0 0) 1 0) 2 (-1)) 3 (-1)) 4 (-1)) 5 (-1)) 6 0) 7 0) hx hb hr hlocks hP hD hS d_Clint_restart_39 (by simp only [sp_Clint_restart])
def sp_Clint_isBelow (x0 : Int32) (x1 : Int32) (w : Nat → Int32) : Int32 :=
  if (w ((x0 + 1).toNatClampNeg)) = (w ((x1 + 1).toNatClampNeg)) then
    sp_Alu_below (w x0.toNatClampNeg) (w x1.toNatClampNeg)
  else
    sp_Alu_below (w ((x0 + 1).toNatClampNeg)) (w ((x1 + 1).toNatClampNeg))
set_option maxHeartbeats 4000000 in
set_option maxRecDepth 100000 in
theorem c_Clint_isBelow {l : Launch} {D : va_G} {g : Nat → Nat} (a : Nat → Nat) (k : Nat → ClassId) (x0 : Int32) (x1 : Int32) (w : Nat → Int32) (hs : vp_in x0 8 ∧ vp_in (x0 + 1) 8) (ho : vp_in x1 8 ∧ vp_in (x1 + 1) 8) : CT l D g y_Clint_isBelow b_Clint_isBelow 3 (some .boolean) (rD 1) [.ref (a 1), .int x0, .int x1] (wK a k w) ([(k 0, .int)]) (Qi D (fun (r : Int32) (_ : Unit) => sp_Clint_isBelow x0 x1 w = r ∧ (r = 0 ∨ r = 1)) (fun _ => wK a k w)) := by
  refine CT.of rfl (Nat.le_of_ble_eq_true rfl) (fun p e s m below meth c A ls hx hb hr hml hts hown hlocks hA hP hK hD hF hS hl => ?_)
  have hl : lv_has ls 3 [(0, .ref (a 1)), (1, .int x0), (2, .int x1)] := hl
  refine lv_aload_n hx hb d_Clint_isBelow_0 rfl (lv_at hl 0 rfl) ?_
  refine va_get (D := D) (ci := 2) (v := .ref (a 2)) (C := R_Clint) (T := F_Clint) (N := 1) hx hb hts i_Clint hown hK hP 0 rfl rfl 0 (by decide) (hts _ k_0) (fun _ h9 => h9) rfl d_Clint_isBelow_1 ?_
  refine lv_iload_n hx hb d_Clint_isBelow_4 rfl (lv_at hl 1 rfl) ?_
  refine lv_iconst (v := 1) hx hb d_Clint_isBelow_5 rfl ?_
  refine lv_iadd hx hb d_Clint_isBelow_6 ?_
  refine y_iald (v := w ((x0 + 1).toNatClampNeg)) hx hb hK hP 1 0 rfl rfl hs.2 rfl d_Clint_isBelow_7 ?_
  refine lv_aload_n hx hb d_Clint_isBelow_8 rfl (lv_at hl 0 rfl) ?_
  refine va_get (D := D) (ci := 2) (v := .ref (a 2)) (C := R_Clint) (T := F_Clint) (N := 1) hx hb hts i_Clint hown hK hP 0 rfl rfl 0 (by decide) (hts _ k_0) (fun _ h9 => h9) rfl d_Clint_isBelow_9 ?_
  refine lv_iload_n hx hb d_Clint_isBelow_12 rfl (lv_at hl 2 rfl) ?_
  refine lv_iconst (v := 1) hx hb d_Clint_isBelow_13 rfl ?_
  refine lv_iadd hx hb d_Clint_isBelow_14 ?_
  refine y_iald (v := w ((x1 + 1).toNatClampNeg)) hx hb hK hP 1 0 rfl rfl ho.2 rfl d_Clint_isBelow_15 ?_
  refine lv_icmp_eq (tgt := 39) hx hb d_Clint_isBelow_16 (by decide) (fun c_1 => ?_) (fun c_1 => ?_)
  · refine lv_aload_n hx hb d_Clint_isBelow_39 rfl (lv_at hl 0 rfl) ?_
    refine va_get (D := D) (ci := 2) (v := .ref (a 2)) (C := R_Clint) (T := F_Clint) (N := 1) hx hb hts i_Clint hown hK hP 0 rfl rfl 0 (by decide) (hts _ k_0) (fun _ h9 => h9) rfl d_Clint_isBelow_40 ?_
    refine lv_iload_n hx hb d_Clint_isBelow_43 rfl (lv_at hl 1 rfl) ?_
    refine y_iald (v := w x0.toNatClampNeg) hx hb hK hP 1 0 rfl rfl hs.1 rfl d_Clint_isBelow_44 ?_
    refine lv_aload_n hx hb d_Clint_isBelow_45 rfl (lv_at hl 0 rfl) ?_
    refine va_get (D := D) (ci := 2) (v := .ref (a 2)) (C := R_Clint) (T := F_Clint) (N := 1) hx hb hts i_Clint hown hK hP 0 rfl rfl 0 (by decide) (hts _ k_0) (fun _ h9 => h9) rfl d_Clint_isBelow_46 ?_
    refine lv_iload_n hx hb d_Clint_isBelow_49 rfl (lv_at hl 2 rfl) ?_
    refine y_iald (v := w x1.toNatClampNeg) hx hb hK hP 1 0 rfl rfl ho.1 rfl d_Clint_isBelow_50 ?_
    refine xi (wr := [((a 1), .inr (2, [.ref (a 2)])), ((a 2), .inl ((k 0), 8, .inl w))]) (W2 := fun _ => wK a k w) (xS (rest := []) ⟨hx, hb, hml, hown, hts⟩ (c_Alu_below (w x0.toNatClampNeg) (w x1.toNatClampNeg)) mw_Alu_below ms_Alu_below k_30 ⟨rfl, rfl, Nat.le_of_ble_eq_true rfl, Nat.le_of_ble_eq_true rfl⟩ hK hP hD hS hA hF [] [] rfl rfl rfl rfl hl.1 rfl (Nat.le_of_ble_eq_true rfl) d_Clint_isBelow_51 ⟨Nat.zero_le _, Nat.zero_le _⟩) hP hD hS hA [] [0, 1] [0, 1] rfl rfl rfl (by decide) (fun _ => rfl) rfl (fun r_2 _ H locs h_2 hP hD hS => ?_)
    obtain ⟨h_2, z_2⟩ := h_2
    subst h_2
    exact rz () hx hb hr hlocks (nz z_2) hP hD hS d_Clint_isBelow_54 ⟨by simp only [sp_Clint_isBelow, if_pos c_1], z_2⟩
  · refine lv_aload_n hx hb d_Clint_isBelow_19 rfl (lv_at hl 0 rfl) ?_
    refine va_get (D := D) (ci := 2) (v := .ref (a 2)) (C := R_Clint) (T := F_Clint) (N := 1) hx hb hts i_Clint hown hK hP 0 rfl rfl 0 (by decide) (hts _ k_0) (fun _ h9 => h9) rfl d_Clint_isBelow_20 ?_
    refine lv_iload_n hx hb d_Clint_isBelow_23 rfl (lv_at hl 1 rfl) ?_
    refine lv_iconst (v := 1) hx hb d_Clint_isBelow_24 rfl ?_
    refine lv_iadd hx hb d_Clint_isBelow_25 ?_
    refine y_iald (v := w ((x0 + 1).toNatClampNeg)) hx hb hK hP 1 0 rfl rfl hs.2 rfl d_Clint_isBelow_26 ?_
    refine lv_aload_n hx hb d_Clint_isBelow_27 rfl (lv_at hl 0 rfl) ?_
    refine va_get (D := D) (ci := 2) (v := .ref (a 2)) (C := R_Clint) (T := F_Clint) (N := 1) hx hb hts i_Clint hown hK hP 0 rfl rfl 0 (by decide) (hts _ k_0) (fun _ h9 => h9) rfl d_Clint_isBelow_28 ?_
    refine lv_iload_n hx hb d_Clint_isBelow_31 rfl (lv_at hl 2 rfl) ?_
    refine lv_iconst (v := 1) hx hb d_Clint_isBelow_32 rfl ?_
    refine lv_iadd hx hb d_Clint_isBelow_33 ?_
    refine y_iald (v := w ((x1 + 1).toNatClampNeg)) hx hb hK hP 1 0 rfl rfl ho.2 rfl d_Clint_isBelow_34 ?_
    refine xi (wr := [((a 1), .inr (2, [.ref (a 2)])), ((a 2), .inl ((k 0), 8, .inl w))]) (W2 := fun _ => wK a k w) (xS (rest := []) ⟨hx, hb, hml, hown, hts⟩ (c_Alu_below (w ((x0 + 1).toNatClampNeg)) (w ((x1 + 1).toNatClampNeg))) mw_Alu_below ms_Alu_below k_30 ⟨rfl, rfl, Nat.le_of_ble_eq_true rfl, Nat.le_of_ble_eq_true rfl⟩ hK hP hD hS hA hF [] [] rfl rfl rfl rfl hl.1 rfl (Nat.le_of_ble_eq_true rfl) d_Clint_isBelow_35 ⟨Nat.zero_le _, Nat.zero_le _⟩) hP hD hS hA [] [0, 1] [0, 1] rfl rfl rfl (by decide) (fun _ => rfl) rfl (fun r_3 _ H locs h_3 hP hD hS => ?_)
    obtain ⟨h_3, z_3⟩ := h_3
    subst h_3
    exact rz () hx hb hr hlocks (nz z_3) hP hD hS d_Clint_isBelow_38 ⟨by simp only [sp_Clint_isBelow, if_neg c_1], z_3⟩
def sp_Clint_lines (x0 : Int32) (w : Nat → Int32) : Int32 :=
  if (w x0.toNatClampNeg) = 0 then
    if (sp_Clint_isBelow 6 (2 + (2 * x0)) w) = 0 then
      128
    else
      0
  else
    if (sp_Clint_isBelow 6 (2 + (2 * x0)) w) = 0 then
      136
    else
      8
set_option maxHeartbeats 4000000 in
set_option maxRecDepth 100000 in
theorem c_Clint_lines {l : Launch} {D : va_G} {g : Nat → Nat} (a : Nat → Nat) (k : Nat → ClassId) (x0 : Int32) (w : Nat → Int32) (hid : x0 = 0 ∨ x0 = 1) : CT l D g y_Clint_lines b_Clint_lines 4 (some .int) (rD 2) [.ref (a 1), .int x0] (wK a k w) ([(k 0, .int)]) (Qi D (fun (r : Int32) (_ : Unit) => sp_Clint_lines x0 w = r) (fun _ => wK a k w)) := by
  refine CT.of rfl (Nat.le_of_ble_eq_true rfl) (fun p e s m below meth c A ls hx hb hr hml hts hown hlocks hA hP hK hD hF hS hl => ?_)
  have hl : lv_has ls 4 [(0, .ref (a 1)), (1, .int x0)] := hl
  refine lv_aload_n hx hb d_Clint_lines_0 rfl (lv_at hl 0 rfl) ?_
  refine va_get (D := D) (ci := 2) (v := .ref (a 2)) (C := R_Clint) (T := F_Clint) (N := 1) hx hb hts i_Clint hown hK hP 0 rfl rfl 0 (by decide) (hts _ k_0) (fun _ h9 => h9) rfl d_Clint_lines_1 ?_
  refine lv_iload_n hx hb d_Clint_lines_4 rfl (lv_at hl 1 rfl) ?_
  refine y_iald (v := w x0.toNatClampNeg) hx hb hK hP 1 0 rfl rfl (vp_01 hid (by decide)) rfl d_Clint_lines_5 ?_
  refine lv_if_eq (tgt := 14) hx hb d_Clint_lines_6 (by decide) (fun c_1 => ?_) (fun c_1 => ?_)
  · refine lv_iconst (v := 0) hx hb d_Clint_lines_14 rfl ?_
    refine lv_istore_n (lv' := [(2, .int 0), (0, .ref (a 1)), (1, .int x0)]) hx hb d_Clint_lines_15 rfl hl (by decide) rfl (fun ls hl => ?_)
    refine lv_aload_n hx hb d_Clint_lines_16 rfl (lv_at hl 1 rfl) ?_
    refine lv_bipush (v := 6) hx hb d_Clint_lines_17 rfl ?_
    refine lv_iconst (v := 2) hx hb d_Clint_lines_19 rfl ?_
    refine lv_iconst (v := 2) hx hb d_Clint_lines_20 rfl ?_
    refine lv_iload_n hx hb d_Clint_lines_21 rfl (lv_at hl 2 rfl) ?_
    refine lv_imul hx hb d_Clint_lines_22 ?_
    refine lv_iadd hx hb d_Clint_lines_23 ?_
    refine xi (wr := []) (W2 := fun _ => wK a k w) (xV (rest := []) ⟨hx, hb, hml, hown, hts⟩ (c_Clint_isBelow a k 6 (2 + (2 * x0)) w ⟨by unfold vp_in; decide, by unfold vp_in; decide⟩ (vp_cmp hid)) mw_Clint_isBelow mv_Clint_isBelow k_31 ⟨rfl, rfl, Nat.le_of_ble_eq_true rfl, Nat.le_of_ble_eq_true rfl⟩ hK hP hD hS hA hF [0, 1] [0] rfl rfl rfl 0 2 rfl rfl rfl rfl hl.1 rfl (Nat.le_of_ble_eq_true rfl) d_Clint_lines_24 ⟨Nat.zero_le _, Nat.zero_le _⟩) hP hD hS hA [0, 1] [] [0, 1] rfl rfl rfl (by decide) (fun _ => rfl) rfl (fun r_2 _ H locs h_2 hP hD hS => ?_)
    obtain ⟨h_2, z_2⟩ := h_2
    subst h_2
    refine lv_istore_n (lv' := [(3, .int (sp_Clint_isBelow 6 (2 + (2 * x0)) w)), (2, .int 0), (0, .ref (a 1)), (1, .int x0)]) hx hb d_Clint_lines_27 rfl hl (by decide) rfl (fun ls hl => ?_)
    refine lv_iload_n hx hb d_Clint_lines_28 rfl (lv_at hl 0 rfl) ?_
    refine lv_if_eq (tgt := 36) hx hb d_Clint_lines_29 (by decide) (fun c_3 => ?_) (fun c_3 => ?_)
    · refine lv_iload_n hx hb d_Clint_lines_36 rfl (lv_at hl 1 rfl) ?_
      refine lv_sipush (v := 128) hx hb d_Clint_lines_37 rfl ?_
      refine lv_ior hx hb d_Clint_lines_40 ?_
      refine W.eq (g2 := F0 m 41 ls [.int 128]) rfl ?_
      exact ri () hx hb hr hlocks hP hD hS d_Clint_lines_41 (by simp only [sp_Clint_lines, if_pos c_1, if_pos c_3])
    · refine lv_iload_n hx hb d_Clint_lines_32 rfl (lv_at hl 1 rfl) ?_
      refine lv_goto (tgt := 41) hx hb d_Clint_lines_33 (by decide) ?_
      exact ri () hx hb hr hlocks hP hD hS d_Clint_lines_41 (by simp only [sp_Clint_lines, if_pos c_1, if_neg c_3])
  · refine lv_bipush (v := 8) hx hb d_Clint_lines_9 rfl ?_
    refine lv_goto (tgt := 15) hx hb d_Clint_lines_11 (by decide) ?_
    refine lv_istore_n (lv' := [(2, .int 8), (0, .ref (a 1)), (1, .int x0)]) hx hb d_Clint_lines_15 rfl hl (by decide) rfl (fun ls hl => ?_)
    refine lv_aload_n hx hb d_Clint_lines_16 rfl (lv_at hl 1 rfl) ?_
    refine lv_bipush (v := 6) hx hb d_Clint_lines_17 rfl ?_
    refine lv_iconst (v := 2) hx hb d_Clint_lines_19 rfl ?_
    refine lv_iconst (v := 2) hx hb d_Clint_lines_20 rfl ?_
    refine lv_iload_n hx hb d_Clint_lines_21 rfl (lv_at hl 2 rfl) ?_
    refine lv_imul hx hb d_Clint_lines_22 ?_
    refine lv_iadd hx hb d_Clint_lines_23 ?_
    refine xi (wr := []) (W2 := fun _ => wK a k w) (xV (rest := []) ⟨hx, hb, hml, hown, hts⟩ (c_Clint_isBelow a k 6 (2 + (2 * x0)) w ⟨by unfold vp_in; decide, by unfold vp_in; decide⟩ (vp_cmp hid)) mw_Clint_isBelow mv_Clint_isBelow k_31 ⟨rfl, rfl, Nat.le_of_ble_eq_true rfl, Nat.le_of_ble_eq_true rfl⟩ hK hP hD hS hA hF [0, 1] [0] rfl rfl rfl 0 2 rfl rfl rfl rfl hl.1 rfl (Nat.le_of_ble_eq_true rfl) d_Clint_lines_24 ⟨Nat.zero_le _, Nat.zero_le _⟩) hP hD hS hA [0, 1] [] [0, 1] rfl rfl rfl (by decide) (fun _ => rfl) rfl (fun r_4 _ H locs h_4 hP hD hS => ?_)
    obtain ⟨h_4, z_4⟩ := h_4
    subst h_4
    refine lv_istore_n (lv' := [(3, .int (sp_Clint_isBelow 6 (2 + (2 * x0)) w)), (2, .int 8), (0, .ref (a 1)), (1, .int x0)]) hx hb d_Clint_lines_27 rfl hl (by decide) rfl (fun ls hl => ?_)
    refine lv_iload_n hx hb d_Clint_lines_28 rfl (lv_at hl 0 rfl) ?_
    refine lv_if_eq (tgt := 36) hx hb d_Clint_lines_29 (by decide) (fun c_5 => ?_) (fun c_5 => ?_)
    · refine lv_iload_n hx hb d_Clint_lines_36 rfl (lv_at hl 1 rfl) ?_
      refine lv_sipush (v := 128) hx hb d_Clint_lines_37 rfl ?_
      refine lv_ior hx hb d_Clint_lines_40 ?_
      refine W.eq (g2 := F0 m 41 ls [.int 136]) rfl ?_
      exact ri () hx hb hr hlocks hP hD hS d_Clint_lines_41 (by simp only [sp_Clint_lines, if_neg c_1, if_pos c_5])
    · refine lv_iload_n hx hb d_Clint_lines_32 rfl (lv_at hl 1 rfl) ?_
      refine lv_goto (tgt := 41) hx hb d_Clint_lines_33 (by decide) ?_
      exact ri () hx hb hr hlocks hP hD hS d_Clint_lines_41 (by simp only [sp_Clint_lines, if_neg c_1, if_neg c_5])
def sp_Clint_slotAt (x0 : Int64)  : Int32 :=
  if x0 < 33554432 then
    if x0 < 33570816 then
      if x0 < 33603576 then
        (-1)
      else
        if 33603584 ≤ x0 then
          (-1)
        else
          6 + (shr ((x0 - 33603576).toInt32) 2)
    else
      if 33570832 ≤ x0 then
        if x0 < 33603576 then
          (-1)
        else
          if 33603584 ≤ x0 then
            (-1)
          else
            6 + (shr ((x0 - 33603576).toInt32) 2)
      else
        2 + (shr ((x0 - 33570816).toInt32) 2)
  else
    if 33554440 ≤ x0 then
      if x0 < 33570816 then
        if x0 < 33603576 then
          (-1)
        else
          if 33603584 ≤ x0 then
            (-1)
          else
            6 + (shr ((x0 - 33603576).toInt32) 2)
      else
        if 33570832 ≤ x0 then
          if x0 < 33603576 then
            (-1)
          else
            if 33603584 ≤ x0 then
              (-1)
            else
              6 + (shr ((x0 - 33603576).toInt32) 2)
        else
          2 + (shr ((x0 - 33570816).toInt32) 2)
    else
      shr ((x0 - 33554432).toInt32) 2
set_option maxHeartbeats 4000000 in
set_option maxRecDepth 100000 in
theorem c_Clint_slotAt {l : Launch} {D : va_G} {g : Nat → Nat}  (x0 : Int64)   : CT l D g y_Clint_slotAt b_Clint_slotAt 2 (some .int) (rD 0) [.long x0] ([]) ([]) (Qi D (fun (r : Int32) (_ : Unit) => sp_Clint_slotAt x0 = r) (fun _ => [])) := by
  refine CT.of rfl (Nat.le_of_ble_eq_true rfl) (fun p e s m below meth c A ls hx hb hr hml hts hown hlocks hA hP hK hD hF hS hl => ?_)
  have hl : lv_has ls 2 [(0, .long x0)] := hl
  refine lv_lload_n hx hb d_Clint_slotAt_0 rfl (lv_at hl 0 rfl) ?_
  refine lv_ldc2 (v := 33554432) hx hb hown (hts _ k_59) d_Clint_slotAt_1 ?_
  refine W.lcmp hx hb d_Clint_slotAt_4 ?_
  refine lv_if_lt (tgt := 25) hx hb d_Clint_slotAt_5 (by decide) (fun b_1 => ?_) (fun b_1 => ?_)
  · have c_1 : x0 < 33554432 := (lg_cmp_lt _ _).mp b_1
    refine lv_lload_n hx hb d_Clint_slotAt_25 rfl (lv_at hl 0 rfl) ?_
    refine lv_ldc2 (v := 33570816) hx hb hown (hts _ k_60) d_Clint_slotAt_26 ?_
    refine W.lcmp hx hb d_Clint_slotAt_29 ?_
    refine lv_if_lt (tgt := 52) hx hb d_Clint_slotAt_30 (by decide) (fun b_2 => ?_) (fun b_2 => ?_)
    · have c_2 : x0 < 33570816 := (lg_cmp_lt _ _).mp b_2
      refine lv_lload_n hx hb d_Clint_slotAt_52 rfl (lv_at hl 0 rfl) ?_
      refine lv_ldc2 (v := 33603576) hx hb hown (hts _ k_61) d_Clint_slotAt_53 ?_
      refine W.lcmp hx hb d_Clint_slotAt_56 ?_
      refine lv_if_lt (tgt := 80) hx hb d_Clint_slotAt_57 (by decide) (fun b_3 => ?_) (fun b_3 => ?_)
      · have c_3 : x0 < 33603576 := (lg_cmp_lt _ _).mp b_3
        refine lv_iconst (v := (-1)) hx hb d_Clint_slotAt_80 rfl ?_
        exact ri () hx hb hr hlocks hP hD hS d_Clint_slotAt_81 (by simp only [sp_Clint_slotAt, if_pos c_1, if_pos c_2, if_pos c_3])
      · have c_3 : ¬ x0 < 33603576 := fun h9 => b_3 ((lg_cmp_lt _ _).mpr h9)
        refine lv_lload_n hx hb d_Clint_slotAt_60 rfl (lv_at hl 0 rfl) ?_
        refine lv_ldc2 (v := 33603584) hx hb hown (hts _ k_62) d_Clint_slotAt_61 ?_
        refine W.lcmp hx hb d_Clint_slotAt_64 ?_
        refine lv_if_ge (tgt := 80) hx hb d_Clint_slotAt_65 (by decide) (fun b_4 => ?_) (fun b_4 => ?_)
        · have c_4 : 33603584 ≤ x0 := (lg_cmp_ge _ _).mp b_4
          refine lv_iconst (v := (-1)) hx hb d_Clint_slotAt_80 rfl ?_
          exact ri () hx hb hr hlocks hP hD hS d_Clint_slotAt_81 (by simp only [sp_Clint_slotAt, if_pos c_1, if_pos c_2, if_neg c_3, if_pos c_4])
        · have c_4 : ¬ 33603584 ≤ x0 := fun h9 => b_4 ((lg_cmp_ge _ _).mpr h9)
          refine lv_bipush (v := 6) hx hb d_Clint_slotAt_68 rfl ?_
          refine lv_lload_n hx hb d_Clint_slotAt_70 rfl (lv_at hl 0 rfl) ?_
          refine lv_ldc2 (v := 33603576) hx hb hown (hts _ k_61) d_Clint_slotAt_71 ?_
          refine lv_lsub hx hb d_Clint_slotAt_74 ?_
          refine lv_l2i hx hb d_Clint_slotAt_75 rfl ?_
          refine lv_iconst (v := 2) hx hb d_Clint_slotAt_76 rfl ?_
          refine y_ishr hx hb d_Clint_slotAt_77 ?_
          refine lv_iadd hx hb d_Clint_slotAt_78 ?_
          exact ri () hx hb hr hlocks hP hD hS d_Clint_slotAt_79 (by simp only [sp_Clint_slotAt, if_pos c_1, if_pos c_2, if_neg c_3, if_neg c_4])
    · have c_2 : ¬ x0 < 33570816 := fun h9 => b_2 ((lg_cmp_lt _ _).mpr h9)
      refine lv_lload_n hx hb d_Clint_slotAt_33 rfl (lv_at hl 0 rfl) ?_
      refine lv_ldc2 (v := 33570832) hx hb hown (hts _ k_63) d_Clint_slotAt_34 ?_
      refine W.lcmp hx hb d_Clint_slotAt_37 ?_
      refine lv_if_ge (tgt := 52) hx hb d_Clint_slotAt_38 (by decide) (fun b_5 => ?_) (fun b_5 => ?_)
      · have c_5 : 33570832 ≤ x0 := (lg_cmp_ge _ _).mp b_5
        refine lv_lload_n hx hb d_Clint_slotAt_52 rfl (lv_at hl 0 rfl) ?_
        refine lv_ldc2 (v := 33603576) hx hb hown (hts _ k_61) d_Clint_slotAt_53 ?_
        refine W.lcmp hx hb d_Clint_slotAt_56 ?_
        refine lv_if_lt (tgt := 80) hx hb d_Clint_slotAt_57 (by decide) (fun b_6 => ?_) (fun b_6 => ?_)
        · have c_6 : x0 < 33603576 := (lg_cmp_lt _ _).mp b_6
          refine lv_iconst (v := (-1)) hx hb d_Clint_slotAt_80 rfl ?_
          exact ri () hx hb hr hlocks hP hD hS d_Clint_slotAt_81 (by simp only [sp_Clint_slotAt, if_pos c_1, if_neg c_2, if_pos c_5, if_pos c_6])
        · have c_6 : ¬ x0 < 33603576 := fun h9 => b_6 ((lg_cmp_lt _ _).mpr h9)
          refine lv_lload_n hx hb d_Clint_slotAt_60 rfl (lv_at hl 0 rfl) ?_
          refine lv_ldc2 (v := 33603584) hx hb hown (hts _ k_62) d_Clint_slotAt_61 ?_
          refine W.lcmp hx hb d_Clint_slotAt_64 ?_
          refine lv_if_ge (tgt := 80) hx hb d_Clint_slotAt_65 (by decide) (fun b_7 => ?_) (fun b_7 => ?_)
          · have c_7 : 33603584 ≤ x0 := (lg_cmp_ge _ _).mp b_7
            refine lv_iconst (v := (-1)) hx hb d_Clint_slotAt_80 rfl ?_
            exact ri () hx hb hr hlocks hP hD hS d_Clint_slotAt_81 (by simp only [sp_Clint_slotAt, if_pos c_1, if_neg c_2, if_pos c_5, if_neg c_6, if_pos c_7])
          · have c_7 : ¬ 33603584 ≤ x0 := fun h9 => b_7 ((lg_cmp_ge _ _).mpr h9)
            refine lv_bipush (v := 6) hx hb d_Clint_slotAt_68 rfl ?_
            refine lv_lload_n hx hb d_Clint_slotAt_70 rfl (lv_at hl 0 rfl) ?_
            refine lv_ldc2 (v := 33603576) hx hb hown (hts _ k_61) d_Clint_slotAt_71 ?_
            refine lv_lsub hx hb d_Clint_slotAt_74 ?_
            refine lv_l2i hx hb d_Clint_slotAt_75 rfl ?_
            refine lv_iconst (v := 2) hx hb d_Clint_slotAt_76 rfl ?_
            refine y_ishr hx hb d_Clint_slotAt_77 ?_
            refine lv_iadd hx hb d_Clint_slotAt_78 ?_
            exact ri () hx hb hr hlocks hP hD hS d_Clint_slotAt_79 (by simp only [sp_Clint_slotAt, if_pos c_1, if_neg c_2, if_pos c_5, if_neg c_6, if_neg c_7])
      · have c_5 : ¬ 33570832 ≤ x0 := fun h9 => b_5 ((lg_cmp_ge _ _).mpr h9)
        refine lv_iconst (v := 2) hx hb d_Clint_slotAt_41 rfl ?_
        refine lv_lload_n hx hb d_Clint_slotAt_42 rfl (lv_at hl 0 rfl) ?_
        refine lv_ldc2 (v := 33570816) hx hb hown (hts _ k_60) d_Clint_slotAt_43 ?_
        refine lv_lsub hx hb d_Clint_slotAt_46 ?_
        refine lv_l2i hx hb d_Clint_slotAt_47 rfl ?_
        refine lv_iconst (v := 2) hx hb d_Clint_slotAt_48 rfl ?_
        refine y_ishr hx hb d_Clint_slotAt_49 ?_
        refine lv_iadd hx hb d_Clint_slotAt_50 ?_
        exact ri () hx hb hr hlocks hP hD hS d_Clint_slotAt_51 (by simp only [sp_Clint_slotAt, if_pos c_1, if_neg c_2, if_neg c_5])
  · have c_1 : ¬ x0 < 33554432 := fun h9 => b_1 ((lg_cmp_lt _ _).mpr h9)
    refine lv_lload_n hx hb d_Clint_slotAt_8 rfl (lv_at hl 0 rfl) ?_
    refine lv_ldc2 (v := 33554440) hx hb hown (hts _ k_64) d_Clint_slotAt_9 ?_
    refine W.lcmp hx hb d_Clint_slotAt_12 ?_
    refine lv_if_ge (tgt := 25) hx hb d_Clint_slotAt_13 (by decide) (fun b_8 => ?_) (fun b_8 => ?_)
    · have c_8 : 33554440 ≤ x0 := (lg_cmp_ge _ _).mp b_8
      refine lv_lload_n hx hb d_Clint_slotAt_25 rfl (lv_at hl 0 rfl) ?_
      refine lv_ldc2 (v := 33570816) hx hb hown (hts _ k_60) d_Clint_slotAt_26 ?_
      refine W.lcmp hx hb d_Clint_slotAt_29 ?_
      refine lv_if_lt (tgt := 52) hx hb d_Clint_slotAt_30 (by decide) (fun b_9 => ?_) (fun b_9 => ?_)
      · have c_9 : x0 < 33570816 := (lg_cmp_lt _ _).mp b_9
        refine lv_lload_n hx hb d_Clint_slotAt_52 rfl (lv_at hl 0 rfl) ?_
        refine lv_ldc2 (v := 33603576) hx hb hown (hts _ k_61) d_Clint_slotAt_53 ?_
        refine W.lcmp hx hb d_Clint_slotAt_56 ?_
        refine lv_if_lt (tgt := 80) hx hb d_Clint_slotAt_57 (by decide) (fun b_10 => ?_) (fun b_10 => ?_)
        · have c_10 : x0 < 33603576 := (lg_cmp_lt _ _).mp b_10
          refine lv_iconst (v := (-1)) hx hb d_Clint_slotAt_80 rfl ?_
          exact ri () hx hb hr hlocks hP hD hS d_Clint_slotAt_81 (by simp only [sp_Clint_slotAt, if_neg c_1, if_pos c_8, if_pos c_9, if_pos c_10])
        · have c_10 : ¬ x0 < 33603576 := fun h9 => b_10 ((lg_cmp_lt _ _).mpr h9)
          refine lv_lload_n hx hb d_Clint_slotAt_60 rfl (lv_at hl 0 rfl) ?_
          refine lv_ldc2 (v := 33603584) hx hb hown (hts _ k_62) d_Clint_slotAt_61 ?_
          refine W.lcmp hx hb d_Clint_slotAt_64 ?_
          refine lv_if_ge (tgt := 80) hx hb d_Clint_slotAt_65 (by decide) (fun b_11 => ?_) (fun b_11 => ?_)
          · have c_11 : 33603584 ≤ x0 := (lg_cmp_ge _ _).mp b_11
            refine lv_iconst (v := (-1)) hx hb d_Clint_slotAt_80 rfl ?_
            exact ri () hx hb hr hlocks hP hD hS d_Clint_slotAt_81 (by simp only [sp_Clint_slotAt, if_neg c_1, if_pos c_8, if_pos c_9, if_neg c_10, if_pos c_11])
          · have c_11 : ¬ 33603584 ≤ x0 := fun h9 => b_11 ((lg_cmp_ge _ _).mpr h9)
            refine lv_bipush (v := 6) hx hb d_Clint_slotAt_68 rfl ?_
            refine lv_lload_n hx hb d_Clint_slotAt_70 rfl (lv_at hl 0 rfl) ?_
            refine lv_ldc2 (v := 33603576) hx hb hown (hts _ k_61) d_Clint_slotAt_71 ?_
            refine lv_lsub hx hb d_Clint_slotAt_74 ?_
            refine lv_l2i hx hb d_Clint_slotAt_75 rfl ?_
            refine lv_iconst (v := 2) hx hb d_Clint_slotAt_76 rfl ?_
            refine y_ishr hx hb d_Clint_slotAt_77 ?_
            refine lv_iadd hx hb d_Clint_slotAt_78 ?_
            exact ri () hx hb hr hlocks hP hD hS d_Clint_slotAt_79 (by simp only [sp_Clint_slotAt, if_neg c_1, if_pos c_8, if_pos c_9, if_neg c_10, if_neg c_11])
      · have c_9 : ¬ x0 < 33570816 := fun h9 => b_9 ((lg_cmp_lt _ _).mpr h9)
        refine lv_lload_n hx hb d_Clint_slotAt_33 rfl (lv_at hl 0 rfl) ?_
        refine lv_ldc2 (v := 33570832) hx hb hown (hts _ k_63) d_Clint_slotAt_34 ?_
        refine W.lcmp hx hb d_Clint_slotAt_37 ?_
        refine lv_if_ge (tgt := 52) hx hb d_Clint_slotAt_38 (by decide) (fun b_12 => ?_) (fun b_12 => ?_)
        · have c_12 : 33570832 ≤ x0 := (lg_cmp_ge _ _).mp b_12
          refine lv_lload_n hx hb d_Clint_slotAt_52 rfl (lv_at hl 0 rfl) ?_
          refine lv_ldc2 (v := 33603576) hx hb hown (hts _ k_61) d_Clint_slotAt_53 ?_
          refine W.lcmp hx hb d_Clint_slotAt_56 ?_
          refine lv_if_lt (tgt := 80) hx hb d_Clint_slotAt_57 (by decide) (fun b_13 => ?_) (fun b_13 => ?_)
          · have c_13 : x0 < 33603576 := (lg_cmp_lt _ _).mp b_13
            refine lv_iconst (v := (-1)) hx hb d_Clint_slotAt_80 rfl ?_
            exact ri () hx hb hr hlocks hP hD hS d_Clint_slotAt_81 (by simp only [sp_Clint_slotAt, if_neg c_1, if_pos c_8, if_neg c_9, if_pos c_12, if_pos c_13])
          · have c_13 : ¬ x0 < 33603576 := fun h9 => b_13 ((lg_cmp_lt _ _).mpr h9)
            refine lv_lload_n hx hb d_Clint_slotAt_60 rfl (lv_at hl 0 rfl) ?_
            refine lv_ldc2 (v := 33603584) hx hb hown (hts _ k_62) d_Clint_slotAt_61 ?_
            refine W.lcmp hx hb d_Clint_slotAt_64 ?_
            refine lv_if_ge (tgt := 80) hx hb d_Clint_slotAt_65 (by decide) (fun b_14 => ?_) (fun b_14 => ?_)
            · have c_14 : 33603584 ≤ x0 := (lg_cmp_ge _ _).mp b_14
              refine lv_iconst (v := (-1)) hx hb d_Clint_slotAt_80 rfl ?_
              exact ri () hx hb hr hlocks hP hD hS d_Clint_slotAt_81 (by simp only [sp_Clint_slotAt, if_neg c_1, if_pos c_8, if_neg c_9, if_pos c_12, if_neg c_13, if_pos c_14])
            · have c_14 : ¬ 33603584 ≤ x0 := fun h9 => b_14 ((lg_cmp_ge _ _).mpr h9)
              refine lv_bipush (v := 6) hx hb d_Clint_slotAt_68 rfl ?_
              refine lv_lload_n hx hb d_Clint_slotAt_70 rfl (lv_at hl 0 rfl) ?_
              refine lv_ldc2 (v := 33603576) hx hb hown (hts _ k_61) d_Clint_slotAt_71 ?_
              refine lv_lsub hx hb d_Clint_slotAt_74 ?_
              refine lv_l2i hx hb d_Clint_slotAt_75 rfl ?_
              refine lv_iconst (v := 2) hx hb d_Clint_slotAt_76 rfl ?_
              refine y_ishr hx hb d_Clint_slotAt_77 ?_
              refine lv_iadd hx hb d_Clint_slotAt_78 ?_
              exact ri () hx hb hr hlocks hP hD hS d_Clint_slotAt_79 (by simp only [sp_Clint_slotAt, if_neg c_1, if_pos c_8, if_neg c_9, if_pos c_12, if_neg c_13, if_neg c_14])
        · have c_12 : ¬ 33570832 ≤ x0 := fun h9 => b_12 ((lg_cmp_ge _ _).mpr h9)
          refine lv_iconst (v := 2) hx hb d_Clint_slotAt_41 rfl ?_
          refine lv_lload_n hx hb d_Clint_slotAt_42 rfl (lv_at hl 0 rfl) ?_
          refine lv_ldc2 (v := 33570816) hx hb hown (hts _ k_60) d_Clint_slotAt_43 ?_
          refine lv_lsub hx hb d_Clint_slotAt_46 ?_
          refine lv_l2i hx hb d_Clint_slotAt_47 rfl ?_
          refine lv_iconst (v := 2) hx hb d_Clint_slotAt_48 rfl ?_
          refine y_ishr hx hb d_Clint_slotAt_49 ?_
          refine lv_iadd hx hb d_Clint_slotAt_50 ?_
          exact ri () hx hb hr hlocks hP hD hS d_Clint_slotAt_51 (by simp only [sp_Clint_slotAt, if_neg c_1, if_pos c_8, if_neg c_9, if_neg c_12])
    · have c_8 : ¬ 33554440 ≤ x0 := fun h9 => b_8 ((lg_cmp_ge _ _).mpr h9)
      refine lv_lload_n hx hb d_Clint_slotAt_16 rfl (lv_at hl 0 rfl) ?_
      refine lv_ldc2 (v := 33554432) hx hb hown (hts _ k_59) d_Clint_slotAt_17 ?_
      refine lv_lsub hx hb d_Clint_slotAt_20 ?_
      refine lv_l2i hx hb d_Clint_slotAt_21 rfl ?_
      refine lv_iconst (v := 2) hx hb d_Clint_slotAt_22 rfl ?_
      refine y_ishr hx hb d_Clint_slotAt_23 ?_
      exact ri () hx hb hr hlocks hP hD hS d_Clint_slotAt_24 (by simp only [sp_Clint_slotAt, if_neg c_1, if_neg c_8])
theorem sl_of {x : Int64} {c m : Nat} (C : Int64) (hC : C = lN c) (hc : c < 2 ^ 40) (h1 : ¬ x < C) (E : Int64) (hE : E = lN (c + m)) (hm : m ≤ 16) (h2 : ¬ E ≤ x) : ∃ j, j < m ∧ x = lN (c + j) ∧ (shr (x - C).toInt32 2) = nI (j / 4) := by
  unfold shr
  subst hC hE
  have h0 : ¬ x < 0 := by
    rw [Int64.lt_iff_toInt_lt] at h1 ⊢
    rw [pk_lT (by omega)] at h1
    have : (0 : Int64).toInt = 0 := rfl
    omega
  obtain ⟨k, hk, rfl⟩ := pk_lOf h0
  rw [pk_lLT hk (by omega)] at h1
  rw [pk_lLE (by omega) hk] at h2
  refine ⟨k - c, by omega, by rw [show c + (k - c) = k from by omega], ?_⟩
  rw [lN_sub (by omega), lN_i, pk_shrN (by omega) _ 2 (by decide)]
theorem vp_slotd (x0 : Int64) : sp_Clint_slotAt x0 = (-1) ∨ vp_in (sp_Clint_slotAt x0) 8 := by
  unfold sp_Clint_slotAt
  repeat' split
  all_goals first
    | exact Or.inl rfl
    | (right
       obtain ⟨j, hj, -, e⟩ := sl_of (x := x0) (c := 33603576) (m := 8) 33603576 rfl (by decide) (by assumption) 33603584 rfl (by decide) (by assumption)
       rw [e, show (6 : Int32) = nI 6 from rfl, nI_add]
       exact vp_in_nI (by omega) (by decide))
    | (right
       obtain ⟨j, hj, -, e⟩ := sl_of (x := x0) (c := 33570816) (m := 16) 33570816 rfl (by decide) (by assumption) 33570832 rfl (by decide) (by assumption)
       rw [e, show (2 : Int32) = nI 2 from rfl, nI_add]
       exact vp_in_nI (by omega) (by decide))
    | (right
       obtain ⟨j, hj, -, e⟩ := sl_of (x := x0) (c := 33554432) (m := 8) 33554432 rfl (by decide) (by assumption) 33554440 rfl (by decide) (by assumption)
       rw [e]
       exact vp_in_nI (by omega) (by decide))
theorem vp_slot {x0 : Int64} (h : ¬ sp_Clint_slotAt x0 = (-1)) : vp_in (sp_Clint_slotAt x0) 8 := (vp_slotd x0).resolve_left h
def sp_Clint_store (x0 : Int64) (x1 : Int32) (w : Nat → Int32) : Nat → Int32 :=
  if (sp_Clint_slotAt x0) = (-1) then
    w
  else
    if 2 ≤ (sp_Clint_slotAt x0) then
      (upd w ((sp_Clint_slotAt x0).toNatClampNeg) x1)
    else
      (upd w ((sp_Clint_slotAt x0).toNatClampNeg) (x1 &&& 1))
set_option maxHeartbeats 4000000 in
set_option maxRecDepth 100000 in
theorem c_Clint_store {l : Launch} {D : va_G} {g : Nat → Nat} (a : Nat → Nat) (k : Nat → ClassId) (x0 : Int64) (x1 : Int32) (w : Nat → Int32)  : CT l D g y_Clint_store b_Clint_store 5 none (rD 1) [.ref (a 1), .long x0, .int x1] (wK a k w) ([(k 0, .int)]) (Qv D (fun (u : Nat → Int32) => sp_Clint_store x0 x1 w = u) (fun u => wK a k u)) := by
  refine CT.of rfl (Nat.le_of_ble_eq_true rfl) (fun p e s m below meth c A ls hx hb hr hml hts hown hlocks hA hP hK hD hF hS hl => ?_)
  have hl : lv_has ls 5 [(0, .ref (a 1)), (1, .long x0), (3, .int x1)] := hl
  refine lv_lload_n hx hb d_Clint_store_0 rfl (lv_at hl 1 rfl) ?_
  refine xi (wr := [((a 1), .inr (2, [.ref (a 2)])), ((a 2), .inl ((k 0), 8, .inl w))]) (W2 := fun _ => wK a k w) (xS (rest := []) ⟨hx, hb, hml, hown, hts⟩ (c_Clint_slotAt x0) mw_Clint_slotAt ms_Clint_slotAt k_104 ⟨rfl, rfl, Nat.le_of_ble_eq_true rfl, Nat.le_of_ble_eq_true rfl⟩ hK hP hD hS hA hF [] [] rfl rfl rfl rfl hl.1 rfl (Nat.le_of_ble_eq_true rfl) d_Clint_store_1 ⟨Nat.zero_le _, Nat.zero_le _⟩) hP hD hS hA [] [0, 1] [0, 1] rfl rfl rfl (by decide) (fun _ => rfl) rfl (fun r_1 _ H locs h_1 hP hD hS => ?_)
  subst h_1
  refine lv_istore (lv' := [(4, .int (sp_Clint_slotAt x0)), (0, .ref (a 1)), (1, .long x0), (3, .int x1)]) hx hb d_Clint_store_4 hl (by decide) rfl (fun ls hl => ?_)
  refine lv_iload hx hb d_Clint_store_6 (lv_at hl 0 rfl) ?_
  refine lv_iconst (v := (-1)) hx hb d_Clint_store_8 rfl ?_
  refine lv_icmp_eq (tgt := 32) hx hb d_Clint_store_9 (by decide) (fun c_2 => ?_) (fun c_2 => ?_)
  · exact rv w hx hb hr hlocks hP hD hS d_Clint_store_32 (by simp only [sp_Clint_store, if_pos c_2])
  · refine lv_aload_n hx hb d_Clint_store_12 rfl (lv_at hl 1 rfl) ?_
    refine va_get (D := D) (ci := 2) (v := .ref (a 2)) (C := R_Clint) (T := F_Clint) (N := 1) hx hb hts i_Clint hown hK hP 0 rfl rfl 0 (by decide) (hts _ k_0) (fun _ h9 => h9) rfl d_Clint_store_13 ?_
    refine lv_iload hx hb d_Clint_store_16 (lv_at hl 0 rfl) ?_
    refine lv_iload hx hb d_Clint_store_18 (lv_at hl 0 rfl) ?_
    refine lv_iconst (v := 2) hx hb d_Clint_store_20 rfl ?_
    refine lv_icmp_ge (tgt := 30) hx hb d_Clint_store_21 (by decide) (fun c_3 => ?_) (fun c_3 => ?_)
    · refine lv_iload_n hx hb d_Clint_store_30 rfl (lv_at hl 3 rfl) ?_
      refine y_iast (ws' := wK a k (upd w ((sp_Clint_slotAt x0).toNatClampNeg) x1)) hx hb hK hP hD hS 1 0 rfl rfl (vp_slot c_2) d_Clint_store_31 rfl (fun H locs hP hD hS => ?_)
      exact rv (upd w ((sp_Clint_slotAt x0).toNatClampNeg) x1) hx hb hr hlocks hP hD hS d_Clint_store_32 (by simp only [sp_Clint_store, if_neg c_2, if_pos c_3])
    · refine lv_iload_n hx hb d_Clint_store_24 rfl (lv_at hl 3 rfl) ?_
      refine lv_iconst (v := 1) hx hb d_Clint_store_25 rfl ?_
      refine lv_iand hx hb d_Clint_store_26 ?_
      refine lv_goto (tgt := 31) hx hb d_Clint_store_27 (by decide) ?_
      refine y_iast (ws' := wK a k (upd w ((sp_Clint_slotAt x0).toNatClampNeg) (x1 &&& 1))) hx hb hK hP hD hS 1 0 rfl rfl (vp_slot c_2) d_Clint_store_31 rfl (fun H locs hP hD hS => ?_)
      exact rv (upd w ((sp_Clint_slotAt x0).toNatClampNeg) (x1 &&& 1)) hx hb hr hlocks hP hD hS d_Clint_store_32 (by simp only [sp_Clint_store, if_neg c_2, if_neg c_3])
def sp_Clint_advance  (w : Nat → Int32) : Nat → Int32 :=
  if ((w 6) + 1) = 0 then
    (upd (upd w 6 ((w 6) + 1)) 7 ((w 7) + 1))
  else
    (upd w 6 ((w 6) + 1))
set_option maxHeartbeats 4000000 in
set_option maxRecDepth 100000 in
theorem c_Clint_advance {l : Launch} {D : va_G} {g : Nat → Nat} (a : Nat → Nat) (k : Nat → ClassId)  (w : Nat → Int32)  : CT l D g y_Clint_advance b_Clint_advance 1 none (rD 0) [.ref (a 1)] (wK a k w) ([(k 0, .int)]) (Qv D (fun (u : Nat → Int32) => sp_Clint_advance w = u) (fun u => wK a k u)) := by
  refine CT.of rfl (Nat.le_of_ble_eq_true rfl) (fun p e s m below meth c A ls hx hb hr hml hts hown hlocks hA hP hK hD hF hS hl => ?_)
  have hl : lv_has ls 1 [(0, .ref (a 1))] := hl
  refine lv_aload_n hx hb d_Clint_advance_0 rfl (lv_at hl 0 rfl) ?_
  refine va_get (D := D) (ci := 2) (v := .ref (a 2)) (C := R_Clint) (T := F_Clint) (N := 1) hx hb hts i_Clint hown hK hP 0 rfl rfl 0 (by decide) (hts _ k_0) (fun _ h9 => h9) rfl d_Clint_advance_1 ?_
  refine lv_bipush (v := 6) hx hb d_Clint_advance_4 rfl ?_
  refine lv_dup2_11 hx hb d_Clint_advance_6 rfl rfl ?_
  refine y_iald (v := w 6) hx hb hK hP 1 0 rfl rfl (by unfold vp_in; decide) rfl d_Clint_advance_7 ?_
  refine lv_iconst (v := 1) hx hb d_Clint_advance_8 rfl ?_
  refine lv_iadd hx hb d_Clint_advance_9 ?_
  refine y_iast (ws' := wK a k (upd w 6 ((w 6) + 1))) hx hb hK hP hD hS 1 0 rfl rfl (by unfold vp_in; decide) d_Clint_advance_10 rfl (fun H locs hP hD hS => ?_)
  refine lv_aload_n hx hb d_Clint_advance_11 rfl (lv_at hl 0 rfl) ?_
  refine va_get (D := D) (ci := 2) (v := .ref (a 2)) (C := R_Clint) (T := F_Clint) (N := 1) hx hb hts i_Clint hown hK hP 0 rfl rfl 0 (by decide) (hts _ k_0) (fun _ h9 => h9) rfl d_Clint_advance_12 ?_
  refine lv_bipush (v := 6) hx hb d_Clint_advance_15 rfl ?_
  refine y_iald (v := (w 6) + 1) hx hb hK hP 1 0 rfl rfl (by unfold vp_in; decide) rfl d_Clint_advance_17 ?_
  refine lv_if_ne (tgt := 32) hx hb d_Clint_advance_18 (by decide) (fun c_1 => ?_) (fun c_1 => ?_)
  · exact rv (upd w 6 ((w 6) + 1)) hx hb hr hlocks hP hD hS d_Clint_advance_32 (by simp only [sp_Clint_advance, if_neg c_1])
  · refine lv_aload_n hx hb d_Clint_advance_21 rfl (lv_at hl 0 rfl) ?_
    refine va_get (D := D) (ci := 2) (v := .ref (a 2)) (C := R_Clint) (T := F_Clint) (N := 1) hx hb hts i_Clint hown hK hP 0 rfl rfl 0 (by decide) (hts _ k_0) (fun _ h9 => h9) rfl d_Clint_advance_22 ?_
    refine lv_bipush (v := 7) hx hb d_Clint_advance_25 rfl ?_
    refine lv_dup2_11 hx hb d_Clint_advance_27 rfl rfl ?_
    refine y_iald (v := w 7) hx hb hK hP 1 0 rfl rfl (by unfold vp_in; decide) rfl d_Clint_advance_28 ?_
    refine lv_iconst (v := 1) hx hb d_Clint_advance_29 rfl ?_
    refine lv_iadd hx hb d_Clint_advance_30 ?_
    refine y_iast (ws' := wK a k (upd (upd w 6 ((w 6) + 1)) 7 ((w 7) + 1))) hx hb hK hP hD hS 1 0 rfl rfl (by unfold vp_in; decide) d_Clint_advance_31 rfl (fun H locs hP hD hS => ?_)
    exact rv (upd (upd w 6 ((w 6) + 1)) 7 ((w 7) + 1)) hx hb hr hlocks hP hD hS d_Clint_advance_32 (by simp only [sp_Clint_advance, if_pos c_1])
end
