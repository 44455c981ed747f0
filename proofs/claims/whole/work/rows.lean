section
-- ===== PART A: goes FIRST, ahead of the names: the tables' words, and 'selects' of the private methods out of them =====
/-- a private method of a class that the tables say can be made, by its rows of tables_1 -/
def lw_okq (q : MethodName × Nat) : Prop := (q.1.cls ≠ "java/lang/invoke/MethodHandle" ∧ q.1.cls ≠ "java/lang/invoke/VarHandle") ∧ Cond.instantiable q.1.cls q.2 ∈ tables_1 ∧ Cond.privateMethod q.1 ∈ tables_1 ∧ Cond.instanceMethod q.1 ∈ tables_1
theorem lw_p0 : lw_okq (⟨"TwinHart$Clint", "isBelow", "(II)Z"⟩, 1) := ⟨⟨by decide +kernel, by decide +kernel⟩, List.mem_of_getElem? (i := 35) (by decide +kernel), List.mem_of_getElem? (i := 222) (by decide +kernel), List.mem_of_getElem? (i := 223) (by decide +kernel)⟩
theorem lw_p1 : lw_okq (⟨"TwinHart$Csrs", "has", "(I)Z"⟩, 17) := ⟨⟨by decide +kernel, by decide +kernel⟩, List.mem_of_getElem? (i := 83) (by decide +kernel), List.mem_of_getElem? (i := 234) (by decide +kernel), List.mem_of_getElem? (i := 235) (by decide +kernel)⟩
theorem lw_p2 : lw_okq (⟨"TwinHart$Hart", "take", "(IIZ)V"⟩, 6) := ⟨⟨by decide +kernel, by decide +kernel⟩, List.mem_of_getElem? (i := 76) (by decide +kernel), List.mem_of_getElem? (i := 247) (by decide +kernel), List.mem_of_getElem? (i := 248) (by decide +kernel)⟩
theorem lw_p3 : lw_okq (⟨"TwinHart$Hart", "locate", "(IILTwinHart$Access;LTwinHart$Memory;)J"⟩, 6) := ⟨⟨by decide +kernel, by decide +kernel⟩, List.mem_of_getElem? (i := 76) (by decide +kernel), List.mem_of_getElem? (i := 261) (by decide +kernel), List.mem_of_getElem? (i := 262) (by decide +kernel)⟩
theorem lw_p4 : lw_okq (⟨"TwinHart$Csrs", "levelBefore", "()I"⟩, 17) := ⟨⟨by decide +kernel, by decide +kernel⟩, List.mem_of_getElem? (i := 83) (by decide +kernel), List.mem_of_getElem? (i := 274) (by decide +kernel), List.mem_of_getElem? (i := 275) (by decide +kernel)⟩
theorem lw_p5 : lw_okq (⟨"TwinHart$Hart", "fault", "(JI)I"⟩, 6) := ⟨⟨by decide +kernel, by decide +kernel⟩, List.mem_of_getElem? (i := 76) (by decide +kernel), List.mem_of_getElem? (i := 334) (by decide +kernel), List.mem_of_getElem? (i := 335) (by decide +kernel)⟩
theorem lw_p6 : lw_okq (⟨"TwinHart$Hart", "trap", "(II)I"⟩, 6) := ⟨⟨by decide +kernel, by decide +kernel⟩, List.mem_of_getElem? (i := 76) (by decide +kernel), List.mem_of_getElem? (i := 341) (by decide +kernel), List.mem_of_getElem? (i := 342) (by decide +kernel)⟩
theorem lw_p7 : lw_okq (⟨"TwinHart$Hart", "execute", "(ILTwinHart$Memory;)I"⟩, 6) := ⟨⟨by decide +kernel, by decide +kernel⟩, List.mem_of_getElem? (i := 76) (by decide +kernel), List.mem_of_getElem? (i := 346) (by decide +kernel), List.mem_of_getElem? (i := 347) (by decide +kernel)⟩
theorem lw_p8 : lw_okq (⟨"TwinHart$Hart", "load", "(ILTwinHart$Memory;)I"⟩, 6) := ⟨⟨by decide +kernel, by decide +kernel⟩, List.mem_of_getElem? (i := 76) (by decide +kernel), List.mem_of_getElem? (i := 350) (by decide +kernel), List.mem_of_getElem? (i := 351) (by decide +kernel)⟩
theorem lw_p9 : lw_okq (⟨"TwinHart$Hart", "illegal", "(I)I"⟩, 6) := ⟨⟨by decide +kernel, by decide +kernel⟩, List.mem_of_getElem? (i := 76) (by decide +kernel), List.mem_of_getElem? (i := 357) (by decide +kernel), List.mem_of_getElem? (i := 358) (by decide +kernel)⟩
theorem lw_p10 : lw_okq (⟨"TwinHart$Hart", "finish", "(II)I"⟩, 6) := ⟨⟨by decide +kernel, by decide +kernel⟩, List.mem_of_getElem? (i := 76) (by decide +kernel), List.mem_of_getElem? (i := 380) (by decide +kernel), List.mem_of_getElem? (i := 381) (by decide +kernel)⟩
theorem lw_p11 : lw_okq (⟨"TwinHart$Hart", "write", "(II)V"⟩, 6) := ⟨⟨by decide +kernel, by decide +kernel⟩, List.mem_of_getElem? (i := 76) (by decide +kernel), List.mem_of_getElem? (i := 387) (by decide +kernel), List.mem_of_getElem? (i := 388) (by decide +kernel)⟩
theorem lw_p12 : lw_okq (⟨"TwinHart$Hart", "goOn", "()I"⟩, 6) := ⟨⟨by decide +kernel, by decide +kernel⟩, List.mem_of_getElem? (i := 76) (by decide +kernel), List.mem_of_getElem? (i := 391) (by decide +kernel), List.mem_of_getElem? (i := 392) (by decide +kernel)⟩
theorem lw_p13 : lw_okq (⟨"TwinHart$Hart", "computeWithImmediate", "(I)I"⟩, 6) := ⟨⟨by decide +kernel, by decide +kernel⟩, List.mem_of_getElem? (i := 76) (by decide +kernel), List.mem_of_getElem? (i := 395) (by decide +kernel), List.mem_of_getElem? (i := 396) (by decide +kernel)⟩
theorem lw_p14 : lw_okq (⟨"TwinHart$Hart", "store", "(ILTwinHart$Memory;)I"⟩, 6) := ⟨⟨by decide +kernel, by decide +kernel⟩, List.mem_of_getElem? (i := 76) (by decide +kernel), List.mem_of_getElem? (i := 412) (by decide +kernel), List.mem_of_getElem? (i := 413) (by decide +kernel)⟩
theorem lw_p15 : lw_okq (⟨"TwinHart$Memory", "print", "(I)V"⟩, 5) := ⟨⟨by decide +kernel, by decide +kernel⟩, List.mem_of_getElem? (i := 23) (by decide +kernel), List.mem_of_getElem? (i := 426) (by decide +kernel), List.mem_of_getElem? (i := 427) (by decide +kernel)⟩
def lw_privs_1 : List (MethodName × Nat) := [(⟨"TwinHart$Clint", "isBelow", "(II)Z"⟩, 1), (⟨"TwinHart$Csrs", "has", "(I)Z"⟩, 17), (⟨"TwinHart$Hart", "take", "(IIZ)V"⟩, 6), (⟨"TwinHart$Hart", "locate", "(IILTwinHart$Access;LTwinHart$Memory;)J"⟩, 6), (⟨"TwinHart$Csrs", "levelBefore", "()I"⟩, 17), (⟨"TwinHart$Hart", "fault", "(JI)I"⟩, 6), (⟨"TwinHart$Hart", "trap", "(II)I"⟩, 6), (⟨"TwinHart$Hart", "execute", "(ILTwinHart$Memory;)I"⟩, 6), (⟨"TwinHart$Hart", "load", "(ILTwinHart$Memory;)I"⟩, 6), (⟨"TwinHart$Hart", "illegal", "(I)I"⟩, 6), (⟨"TwinHart$Hart", "finish", "(II)I"⟩, 6), (⟨"TwinHart$Hart", "write", "(II)V"⟩, 6), (⟨"TwinHart$Hart", "goOn", "()I"⟩, 6), (⟨"TwinHart$Hart", "computeWithImmediate", "(I)I"⟩, 6), (⟨"TwinHart$Hart", "store", "(ILTwinHart$Memory;)I"⟩, 6), (⟨"TwinHart$Memory", "print", "(I)V"⟩, 5)]
theorem lw_r1 : ∀ q ∈ lw_privs_1, lw_okq q := List.forall_mem_cons.mpr ⟨lw_p0, List.forall_mem_cons.mpr ⟨lw_p1, List.forall_mem_cons.mpr ⟨lw_p2, List.forall_mem_cons.mpr ⟨lw_p3, List.forall_mem_cons.mpr ⟨lw_p4, List.forall_mem_cons.mpr ⟨lw_p5, List.forall_mem_cons.mpr ⟨lw_p6, List.forall_mem_cons.mpr ⟨lw_p7, List.forall_mem_cons.mpr ⟨lw_p8, List.forall_mem_cons.mpr ⟨lw_p9, List.forall_mem_cons.mpr ⟨lw_p10, List.forall_mem_cons.mpr ⟨lw_p11, List.forall_mem_cons.mpr ⟨lw_p12, List.forall_mem_cons.mpr ⟨lw_p13, List.forall_mem_cons.mpr ⟨lw_p14, List.forall_mem_cons.mpr ⟨lw_p15, fun _ h => absurd h List.not_mem_nil⟩⟩⟩⟩⟩⟩⟩⟩⟩⟩⟩⟩⟩⟩⟩⟩
theorem lw_p16 : lw_okq (⟨"TwinHart$Hart", "changeAtOnce", "(ILTwinHart$Memory;)I"⟩, 6) := ⟨⟨by decide +kernel, by decide +kernel⟩, List.mem_of_getElem? (i := 76) (by decide +kernel), List.mem_of_getElem? (i := 435) (by decide +kernel), List.mem_of_getElem? (i := 436) (by decide +kernel)⟩
theorem lw_p17 : lw_okq (⟨"TwinHart$Hart", "compute", "(I)I"⟩, 6) := ⟨⟨by decide +kernel, by decide +kernel⟩, List.mem_of_getElem? (i := 76) (by decide +kernel), List.mem_of_getElem? (i := 460) (by decide +kernel), List.mem_of_getElem? (i := 461) (by decide +kernel)⟩
theorem lw_p18 : lw_okq (⟨"TwinHart$Hart", "branch", "(I)I"⟩, 6) := ⟨⟨by decide +kernel, by decide +kernel⟩, List.mem_of_getElem? (i := 76) (by decide +kernel), List.mem_of_getElem? (i := 471) (by decide +kernel), List.mem_of_getElem? (i := 472) (by decide +kernel)⟩
theorem lw_p19 : lw_okq (⟨"TwinHart$Hart", "jumpByRegister", "(I)I"⟩, 6) := ⟨⟨by decide +kernel, by decide +kernel⟩, List.mem_of_getElem? (i := 76) (by decide +kernel), List.mem_of_getElem? (i := 481) (by decide +kernel), List.mem_of_getElem? (i := 482) (by decide +kernel)⟩
theorem lw_p20 : lw_okq (⟨"TwinHart$Hart", "jump", "(II)I"⟩, 6) := ⟨⟨by decide +kernel, by decide +kernel⟩, List.mem_of_getElem? (i := 76) (by decide +kernel), List.mem_of_getElem? (i := 485) (by decide +kernel), List.mem_of_getElem? (i := 486) (by decide +kernel)⟩
theorem lw_p21 : lw_okq (⟨"TwinHart$Hart", "callSystem", "(I)I"⟩, 6) := ⟨⟨by decide +kernel, by decide +kernel⟩, List.mem_of_getElem? (i := 76) (by decide +kernel), List.mem_of_getElem? (i := 493) (by decide +kernel), List.mem_of_getElem? (i := 494) (by decide +kernel)⟩
theorem lw_p22 : lw_okq (⟨"TwinHart$Hart", "returnFromMachine", "()I"⟩, 6) := ⟨⟨by decide +kernel, by decide +kernel⟩, List.mem_of_getElem? (i := 76) (by decide +kernel), List.mem_of_getElem? (i := 497) (by decide +kernel), List.mem_of_getElem? (i := 498) (by decide +kernel)⟩
theorem lw_p23 : lw_okq (⟨"TwinHart$Hart", "returnFromSupervisor", "()I"⟩, 6) := ⟨⟨by decide +kernel, by decide +kernel⟩, List.mem_of_getElem? (i := 76) (by decide +kernel), List.mem_of_getElem? (i := 506) (by decide +kernel), List.mem_of_getElem? (i := 507) (by decide +kernel)⟩
theorem lw_p24 : lw_okq (⟨"TwinHart$Hart", "exchange", "(ILTwinHart$Memory;)I"⟩, 6) := ⟨⟨by decide +kernel, by decide +kernel⟩, List.mem_of_getElem? (i := 76) (by decide +kernel), List.mem_of_getElem? (i := 515) (by decide +kernel), List.mem_of_getElem? (i := 516) (by decide +kernel)⟩
theorem lw_p25 : lw_okq (⟨"TwinHart$Csrs", "writeSupervisor", "(II)V"⟩, 17) := ⟨⟨by decide +kernel, by decide +kernel⟩, List.mem_of_getElem? (i := 83) (by decide +kernel), List.mem_of_getElem? (i := 541) (by decide +kernel), List.mem_of_getElem? (i := 542) (by decide +kernel)⟩
theorem lw_p26 : lw_okq (⟨"TwinHart$Csrs", "writeMachine", "(II)V"⟩, 17) := ⟨⟨by decide +kernel, by decide +kernel⟩, List.mem_of_getElem? (i := 83) (by decide +kernel), List.mem_of_getElem? (i := 549) (by decide +kernel), List.mem_of_getElem? (i := 550) (by decide +kernel)⟩
theorem lw_p27 : lw_okq (⟨"TwinHartModel", "begin", "()V"⟩, 16) := ⟨⟨by decide +kernel, by decide +kernel⟩, List.mem_of_getElem? (i := 614) (by decide +kernel), List.mem_of_getElem? (i := 620) (by decide +kernel), List.mem_of_getElem? (i := 621) (by decide +kernel)⟩
theorem lw_p28 : lw_okq (⟨"TwinHartModel", "setBytes", "(III)V"⟩, 16) := ⟨⟨by decide +kernel, by decide +kernel⟩, List.mem_of_getElem? (i := 614) (by decide +kernel), List.mem_of_getElem? (i := 683) (by decide +kernel), List.mem_of_getElem? (i := 684) (by decide +kernel)⟩
theorem lw_p29 : lw_okq (⟨"TwinHartModel", "ramWord", "(I)I"⟩, 16) := ⟨⟨by decide +kernel, by decide +kernel⟩, List.mem_of_getElem? (i := 614) (by decide +kernel), List.mem_of_getElem? (i := 691) (by decide +kernel), List.mem_of_getElem? (i := 692) (by decide +kernel)⟩
theorem lw_p30 : lw_okq (⟨"TwinHartModel", "ramByte", "(I)I"⟩, 16) := ⟨⟨by decide +kernel, by decide +kernel⟩, List.mem_of_getElem? (i := 614) (by decide +kernel), List.mem_of_getElem? (i := 695) (by decide +kernel), List.mem_of_getElem? (i := 696) (by decide +kernel)⟩
theorem lw_p31 : lw_okq (⟨"TwinHartModel", "interrupt", "()I"⟩, 16) := ⟨⟨by decide +kernel, by decide +kernel⟩, List.mem_of_getElem? (i := 614) (by decide +kernel), List.mem_of_getElem? (i := 706) (by decide +kernel), List.mem_of_getElem? (i := 707) (by decide +kernel)⟩
def lw_privs_2 : List (MethodName × Nat) := [(⟨"TwinHart$Hart", "changeAtOnce", "(ILTwinHart$Memory;)I"⟩, 6), (⟨"TwinHart$Hart", "compute", "(I)I"⟩, 6), (⟨"TwinHart$Hart", "branch", "(I)I"⟩, 6), (⟨"TwinHart$Hart", "jumpByRegister", "(I)I"⟩, 6), (⟨"TwinHart$Hart", "jump", "(II)I"⟩, 6), (⟨"TwinHart$Hart", "callSystem", "(I)I"⟩, 6), (⟨"TwinHart$Hart", "returnFromMachine", "()I"⟩, 6), (⟨"TwinHart$Hart", "returnFromSupervisor", "()I"⟩, 6), (⟨"TwinHart$Hart", "exchange", "(ILTwinHart$Memory;)I"⟩, 6), (⟨"TwinHart$Csrs", "writeSupervisor", "(II)V"⟩, 17), (⟨"TwinHart$Csrs", "writeMachine", "(II)V"⟩, 17), (⟨"TwinHartModel", "begin", "()V"⟩, 16), (⟨"TwinHartModel", "setBytes", "(III)V"⟩, 16), (⟨"TwinHartModel", "ramWord", "(I)I"⟩, 16), (⟨"TwinHartModel", "ramByte", "(I)I"⟩, 16), (⟨"TwinHartModel", "interrupt", "()I"⟩, 16)]
theorem lw_r2 : ∀ q ∈ lw_privs_2, lw_okq q := List.forall_mem_cons.mpr ⟨lw_p16, List.forall_mem_cons.mpr ⟨lw_p17, List.forall_mem_cons.mpr ⟨lw_p18, List.forall_mem_cons.mpr ⟨lw_p19, List.forall_mem_cons.mpr ⟨lw_p20, List.forall_mem_cons.mpr ⟨lw_p21, List.forall_mem_cons.mpr ⟨lw_p22, List.forall_mem_cons.mpr ⟨lw_p23, List.forall_mem_cons.mpr ⟨lw_p24, List.forall_mem_cons.mpr ⟨lw_p25, List.forall_mem_cons.mpr ⟨lw_p26, List.forall_mem_cons.mpr ⟨lw_p27, List.forall_mem_cons.mpr ⟨lw_p28, List.forall_mem_cons.mpr ⟨lw_p29, List.forall_mem_cons.mpr ⟨lw_p30, List.forall_mem_cons.mpr ⟨lw_p31, fun _ h => absurd h List.not_mem_nil⟩⟩⟩⟩⟩⟩⟩⟩⟩⟩⟩⟩⟩⟩⟩⟩
theorem lw_p32 : lw_okq (⟨"TwinHartModel", "read", "(II)I"⟩, 16) := ⟨⟨by decide +kernel, by decide +kernel⟩, List.mem_of_getElem? (i := 614) (by decide +kernel), List.mem_of_getElem? (i := 710) (by decide +kernel), List.mem_of_getElem? (i := 711) (by decide +kernel)⟩
theorem lw_p33 : lw_okq (⟨"TwinHartModel", "raw", "(II)I"⟩, 16) := ⟨⟨by decide +kernel, by decide +kernel⟩, List.mem_of_getElem? (i := 614) (by decide +kernel), List.mem_of_getElem? (i := 715) (by decide +kernel), List.mem_of_getElem? (i := 716) (by decide +kernel)⟩
theorem lw_p34 : lw_okq (⟨"TwinHartModel", "has", "(I)Z"⟩, 16) := ⟨⟨by decide +kernel, by decide +kernel⟩, List.mem_of_getElem? (i := 614) (by decide +kernel), List.mem_of_getElem? (i := 727) (by decide +kernel), List.mem_of_getElem? (i := 728) (by decide +kernel)⟩
theorem lw_p35 : lw_okq (⟨"TwinHartModel", "take", "(IIZ)V"⟩, 16) := ⟨⟨by decide +kernel, by decide +kernel⟩, List.mem_of_getElem? (i := 614) (by decide +kernel), List.mem_of_getElem? (i := 731) (by decide +kernel), List.mem_of_getElem? (i := 732) (by decide +kernel)⟩
theorem lw_p36 : lw_okq (⟨"TwinHartModel", "keep", "(IIII)V"⟩, 16) := ⟨⟨by decide +kernel, by decide +kernel⟩, List.mem_of_getElem? (i := 614) (by decide +kernel), List.mem_of_getElem? (i := 735) (by decide +kernel), List.mem_of_getElem? (i := 736) (by decide +kernel)⟩
theorem lw_p37 : lw_okq (⟨"TwinHartModel", "fetch", "()I"⟩, 16) := ⟨⟨by decide +kernel, by decide +kernel⟩, List.mem_of_getElem? (i := 614) (by decide +kernel), List.mem_of_getElem? (i := 739) (by decide +kernel), List.mem_of_getElem? (i := 740) (by decide +kernel)⟩
theorem lw_p38 : lw_okq (⟨"TwinHartModel", "translate", "(II)J"⟩, 16) := ⟨⟨by decide +kernel, by decide +kernel⟩, List.mem_of_getElem? (i := 614) (by decide +kernel), List.mem_of_getElem? (i := 743) (by decide +kernel), List.mem_of_getElem? (i := 744) (by decide +kernel)⟩
theorem lw_p39 : lw_okq (⟨"TwinHartModel", "levelFor", "(I)I"⟩, 16) := ⟨⟨by decide +kernel, by decide +kernel⟩, List.mem_of_getElem? (i := 614) (by decide +kernel), List.mem_of_getElem? (i := 747) (by decide +kernel), List.mem_of_getElem? (i := 748) (by decide +kernel)⟩
theorem lw_p40 : lw_okq (⟨"TwinHartModel", "inRam", "(J)I"⟩, 16) := ⟨⟨by decide +kernel, by decide +kernel⟩, List.mem_of_getElem? (i := 614) (by decide +kernel), List.mem_of_getElem? (i := 756) (by decide +kernel), List.mem_of_getElem? (i := 757) (by decide +kernel)⟩
theorem lw_p41 : lw_okq (⟨"TwinHartModel", "trap", "(II)V"⟩, 16) := ⟨⟨by decide +kernel, by decide +kernel⟩, List.mem_of_getElem? (i := 614) (by decide +kernel), List.mem_of_getElem? (i := 764) (by decide +kernel), List.mem_of_getElem? (i := 765) (by decide +kernel)⟩
theorem lw_p42 : lw_okq (⟨"TwinHartModel", "lets", "(III)Z"⟩, 16) := ⟨⟨by decide +kernel, by decide +kernel⟩, List.mem_of_getElem? (i := 614) (by decide +kernel), List.mem_of_getElem? (i := 774) (by decide +kernel), List.mem_of_getElem? (i := 775) (by decide +kernel)⟩
theorem lw_p43 : lw_okq (⟨"TwinHartModel", "execute", "(I)V"⟩, 16) := ⟨⟨by decide +kernel, by decide +kernel⟩, List.mem_of_getElem? (i := 614) (by decide +kernel), List.mem_of_getElem? (i := 784) (by decide +kernel), List.mem_of_getElem? (i := 785) (by decide +kernel)⟩
theorem lw_p44 : lw_okq (⟨"TwinHartModel", "setReg", "(II)V"⟩, 16) := ⟨⟨by decide +kernel, by decide +kernel⟩, List.mem_of_getElem? (i := 614) (by decide +kernel), List.mem_of_getElem? (i := 791) (by decide +kernel), List.mem_of_getElem? (i := 792) (by decide +kernel)⟩
theorem lw_p45 : lw_okq (⟨"TwinHartModel", "jump", "(I)V"⟩, 16) := ⟨⟨by decide +kernel, by decide +kernel⟩, List.mem_of_getElem? (i := 614) (by decide +kernel), List.mem_of_getElem? (i := 795) (by decide +kernel), List.mem_of_getElem? (i := 796) (by decide +kernel)⟩
theorem lw_p46 : lw_okq (⟨"TwinHartModel", "go", "(I)V"⟩, 16) := ⟨⟨by decide +kernel, by decide +kernel⟩, List.mem_of_getElem? (i := 614) (by decide +kernel), List.mem_of_getElem? (i := 799) (by decide +kernel), List.mem_of_getElem? (i := 800) (by decide +kernel)⟩
theorem lw_p47 : lw_okq (⟨"TwinHartModel", "reg", "(I)I"⟩, 16) := ⟨⟨by decide +kernel, by decide +kernel⟩, List.mem_of_getElem? (i := 614) (by decide +kernel), List.mem_of_getElem? (i := 803) (by decide +kernel), List.mem_of_getElem? (i := 804) (by decide +kernel)⟩
def lw_privs_3 : List (MethodName × Nat) := [(⟨"TwinHartModel", "read", "(II)I"⟩, 16), (⟨"TwinHartModel", "raw", "(II)I"⟩, 16), (⟨"TwinHartModel", "has", "(I)Z"⟩, 16), (⟨"TwinHartModel", "take", "(IIZ)V"⟩, 16), (⟨"TwinHartModel", "keep", "(IIII)V"⟩, 16), (⟨"TwinHartModel", "fetch", "()I"⟩, 16), (⟨"TwinHartModel", "translate", "(II)J"⟩, 16), (⟨"TwinHartModel", "levelFor", "(I)I"⟩, 16), (⟨"TwinHartModel", "inRam", "(J)I"⟩, 16), (⟨"TwinHartModel", "trap", "(II)V"⟩, 16), (⟨"TwinHartModel", "lets", "(III)Z"⟩, 16), (⟨"TwinHartModel", "execute", "(I)V"⟩, 16), (⟨"TwinHartModel", "setReg", "(II)V"⟩, 16), (⟨"TwinHartModel", "jump", "(I)V"⟩, 16), (⟨"TwinHartModel", "go", "(I)V"⟩, 16), (⟨"TwinHartModel", "reg", "(I)I"⟩, 16)]
theorem lw_r3 : ∀ q ∈ lw_privs_3, lw_okq q := List.forall_mem_cons.mpr ⟨lw_p32, List.forall_mem_cons.mpr ⟨lw_p33, List.forall_mem_cons.mpr ⟨lw_p34, List.forall_mem_cons.mpr ⟨lw_p35, List.forall_mem_cons.mpr ⟨lw_p36, List.forall_mem_cons.mpr ⟨lw_p37, List.forall_mem_cons.mpr ⟨lw_p38, List.forall_mem_cons.mpr ⟨lw_p39, List.forall_mem_cons.mpr ⟨lw_p40, List.forall_mem_cons.mpr ⟨lw_p41, List.forall_mem_cons.mpr ⟨lw_p42, List.forall_mem_cons.mpr ⟨lw_p43, List.forall_mem_cons.mpr ⟨lw_p44, List.forall_mem_cons.mpr ⟨lw_p45, List.forall_mem_cons.mpr ⟨lw_p46, List.forall_mem_cons.mpr ⟨lw_p47, fun _ h => absurd h List.not_mem_nil⟩⟩⟩⟩⟩⟩⟩⟩⟩⟩⟩⟩⟩⟩⟩⟩
theorem lw_p48 : lw_okq (⟨"TwinHartModel", "branch", "(I)V"⟩, 16) := ⟨⟨by decide +kernel, by decide +kernel⟩, List.mem_of_getElem? (i := 614) (by decide +kernel), List.mem_of_getElem? (i := 807) (by decide +kernel), List.mem_of_getElem? (i := 808) (by decide +kernel)⟩
theorem lw_p49 : lw_okq (⟨"TwinHartModel", "loads", "(I)V"⟩, 16) := ⟨⟨by decide +kernel, by decide +kernel⟩, List.mem_of_getElem? (i := 614) (by decide +kernel), List.mem_of_getElem? (i := 814) (by decide +kernel), List.mem_of_getElem? (i := 815) (by decide +kernel)⟩
theorem lw_p50 : lw_okq (⟨"TwinHartModel", "load", "(II)I"⟩, 16) := ⟨⟨by decide +kernel, by decide +kernel⟩, List.mem_of_getElem? (i := 614) (by decide +kernel), List.mem_of_getElem? (i := 818) (by decide +kernel), List.mem_of_getElem? (i := 819) (by decide +kernel)⟩
theorem lw_p51 : lw_okq (⟨"TwinHartModel", "place", "(III)J"⟩, 16) := ⟨⟨by decide +kernel, by decide +kernel⟩, List.mem_of_getElem? (i := 614) (by decide +kernel), List.mem_of_getElem? (i := 822) (by decide +kernel), List.mem_of_getElem? (i := 823) (by decide +kernel)⟩
theorem lw_p52 : lw_okq (⟨"TwinHartModel", "clintWord", "(I)I"⟩, 16) := ⟨⟨by decide +kernel, by decide +kernel⟩, List.mem_of_getElem? (i := 614) (by decide +kernel), List.mem_of_getElem? (i := 835) (by decide +kernel), List.mem_of_getElem? (i := 836) (by decide +kernel)⟩
theorem lw_p53 : lw_okq (⟨"TwinHartModel", "stores", "(I)V"⟩, 16) := ⟨⟨by decide +kernel, by decide +kernel⟩, List.mem_of_getElem? (i := 614) (by decide +kernel), List.mem_of_getElem? (i := 839) (by decide +kernel), List.mem_of_getElem? (i := 840) (by decide +kernel)⟩
theorem lw_p54 : lw_okq (⟨"TwinHartModel", "store", "(III)V"⟩, 16) := ⟨⟨by decide +kernel, by decide +kernel⟩, List.mem_of_getElem? (i := 614) (by decide +kernel), List.mem_of_getElem? (i := 843) (by decide +kernel), List.mem_of_getElem? (i := 844) (by decide +kernel)⟩
theorem lw_p55 : lw_okq (⟨"TwinHartModel", "setClint", "(II)V"⟩, 16) := ⟨⟨by decide +kernel, by decide +kernel⟩, List.mem_of_getElem? (i := 614) (by decide +kernel), List.mem_of_getElem? (i := 847) (by decide +kernel), List.mem_of_getElem? (i := 848) (by decide +kernel)⟩
theorem lw_p56 : lw_okq (⟨"TwinHartModel", "reckon", "(IZ)V"⟩, 16) := ⟨⟨by decide +kernel, by decide +kernel⟩, List.mem_of_getElem? (i := 614) (by decide +kernel), List.mem_of_getElem? (i := 853) (by decide +kernel), List.mem_of_getElem? (i := 854) (by decide +kernel)⟩
theorem lw_p57 : lw_okq (⟨"TwinHartModel", "claims", "(I)V"⟩, 16) := ⟨⟨by decide +kernel, by decide +kernel⟩, List.mem_of_getElem? (i := 614) (by decide +kernel), List.mem_of_getElem? (i := 869) (by decide +kernel), List.mem_of_getElem? (i := 870) (by decide +kernel)⟩
theorem lw_p58 : lw_okq (⟨"TwinHartModel", "claimed", "(II)I"⟩, 16) := ⟨⟨by decide +kernel, by decide +kernel⟩, List.mem_of_getElem? (i := 614) (by decide +kernel), List.mem_of_getElem? (i := 873) (by decide +kernel), List.mem_of_getElem? (i := 874) (by decide +kernel)⟩
theorem lw_p59 : lw_okq (⟨"TwinHartModel", "machine", "(I)V"⟩, 16) := ⟨⟨by decide +kernel, by decide +kernel⟩, List.mem_of_getElem? (i := 614) (by decide +kernel), List.mem_of_getElem? (i := 880) (by decide +kernel), List.mem_of_getElem? (i := 881) (by decide +kernel)⟩
theorem lw_p60 : lw_okq (⟨"TwinHartModel", "csrs", "(I)V"⟩, 16) := ⟨⟨by decide +kernel, by decide +kernel⟩, List.mem_of_getElem? (i := 614) (by decide +kernel), List.mem_of_getElem? (i := 890) (by decide +kernel), List.mem_of_getElem? (i := 891) (by decide +kernel)⟩
theorem lw_p61 : lw_okq (⟨"TwinHartModel", "write", "(III)V"⟩, 16) := ⟨⟨by decide +kernel, by decide +kernel⟩, List.mem_of_getElem? (i := 614) (by decide +kernel), List.mem_of_getElem? (i := 897) (by decide +kernel), List.mem_of_getElem? (i := 898) (by decide +kernel)⟩
def lw_privs_4 : List (MethodName × Nat) := [(⟨"TwinHartModel", "branch", "(I)V"⟩, 16), (⟨"TwinHartModel", "loads", "(I)V"⟩, 16), (⟨"TwinHartModel", "load", "(II)I"⟩, 16), (⟨"TwinHartModel", "place", "(III)J"⟩, 16), (⟨"TwinHartModel", "clintWord", "(I)I"⟩, 16), (⟨"TwinHartModel", "stores", "(I)V"⟩, 16), (⟨"TwinHartModel", "store", "(III)V"⟩, 16), (⟨"TwinHartModel", "setClint", "(II)V"⟩, 16), (⟨"TwinHartModel", "reckon", "(IZ)V"⟩, 16), (⟨"TwinHartModel", "claims", "(I)V"⟩, 16), (⟨"TwinHartModel", "claimed", "(II)I"⟩, 16), (⟨"TwinHartModel", "machine", "(I)V"⟩, 16), (⟨"TwinHartModel", "csrs", "(I)V"⟩, 16), (⟨"TwinHartModel", "write", "(III)V"⟩, 16)]
theorem lw_r4 : ∀ q ∈ lw_privs_4, lw_okq q := List.forall_mem_cons.mpr ⟨lw_p48, List.forall_mem_cons.mpr ⟨lw_p49, List.forall_mem_cons.mpr ⟨lw_p50, List.forall_mem_cons.mpr ⟨lw_p51, List.forall_mem_cons.mpr ⟨lw_p52, List.forall_mem_cons.mpr ⟨lw_p53, List.forall_mem_cons.mpr ⟨lw_p54, List.forall_mem_cons.mpr ⟨lw_p55, List.forall_mem_cons.mpr ⟨lw_p56, List.forall_mem_cons.mpr ⟨lw_p57, List.forall_mem_cons.mpr ⟨lw_p58, List.forall_mem_cons.mpr ⟨lw_p59, List.forall_mem_cons.mpr ⟨lw_p60, List.forall_mem_cons.mpr ⟨lw_p61, fun _ h => absurd h List.not_mem_nil⟩⟩⟩⟩⟩⟩⟩⟩⟩⟩⟩⟩⟩⟩
def lw_privs : List (MethodName × Nat) := lw_privs_1 ++ (lw_privs_2 ++ (lw_privs_3 ++ (lw_privs_4)))
def lw_tbl : List Cond := k2_sels lw_privs ++ tables_1
theorem lw_privs_ok : ∀ q ∈ lw_privs, lw_okq q := by
  show ∀ q ∈ lw_privs_1 ++ (lw_privs_2 ++ (lw_privs_3 ++ (lw_privs_4))), lw_okq q
  exact List.forall_mem_append.mpr ⟨lw_r1, List.forall_mem_append.mpr ⟨lw_r2, List.forall_mem_append.mpr ⟨lw_r3, lw_r4⟩⟩⟩
end
section
-- names of classes, their fields, methods
def R_TwinHart : String := "TwinHart"
def R_Memory : String := "TwinHart$Memory"
def R_Clint : String := "TwinHart$Clint"
def R_Csrs : String := "TwinHart$Csrs"
def R_Hart : String := "TwinHart$Hart"
def R_Access : String := "TwinHart$Access"
def R_Alu : String := "TwinHart$Alu"
def R_Fault : String := "TwinHart$Fault"
def R_Field : String := "TwinHart$Field"
def R_Pages : String := "TwinHart$Pages"
def R_Model : String := "TwinHartModel"
def R_law : String := "TwinHartLaw"
def F_Clint : u_T := fun k => match k with
  | _ => ("TwinHart$Clint", "words", "[I", true)
def t_Clint : Nat → FieldType := fun k => match k with
  | _ => .array .int
theorem n_Clint : ∀ a, a < 1 → ∀ b, b < 1 → a ≠ b → (F_Clint a).2.1 ≠ (F_Clint b).2.1 := by decide +kernel
theorem t_Clint_ok : ∀ k, k < 1 → parseFieldDescriptor (F_Clint k).2.2.1 = some (t_Clint k) := by decide +kernel
def F_Csrs : u_T := fun k => match k with
  | 0 => ("TwinHart$Csrs", "hart", "I", true)
  | 1 => ("TwinHart$Csrs", "mstatus", "I", false)
  | 2 => ("TwinHart$Csrs", "medeleg", "I", false)
  | 3 => ("TwinHart$Csrs", "mideleg", "I", false)
  | 4 => ("TwinHart$Csrs", "mie", "I", false)
  | 5 => ("TwinHart$Csrs", "mtvec", "I", false)
  | 6 => ("TwinHart$Csrs", "mepc", "I", false)
  | 7 => ("TwinHart$Csrs", "mscratch", "I", false)
  | 8 => ("TwinHart$Csrs", "mcause", "I", false)
  | 9 => ("TwinHart$Csrs", "mtval", "I", false)
  | 10 => ("TwinHart$Csrs", "mip", "I", false)
  | 11 => ("TwinHart$Csrs", "stvec", "I", false)
  | 12 => ("TwinHart$Csrs", "sepc", "I", false)
  | 13 => ("TwinHart$Csrs", "sscratch", "I", false)
  | 14 => ("TwinHart$Csrs", "scause", "I", false)
  | 15 => ("TwinHart$Csrs", "stval", "I", false)
  | _ => ("TwinHart$Csrs", "satp", "I", false)
def t_Csrs : Nat → FieldType := fun k => match k with
  | 0 => .int
  | 1 => .int
  | 2 => .int
  | 3 => .int
  | 4 => .int
  | 5 => .int
  | 6 => .int
  | 7 => .int
  | 8 => .int
  | 9 => .int
  | 10 => .int
  | 11 => .int
  | 12 => .int
  | 13 => .int
  | 14 => .int
  | 15 => .int
  | _ => .int
theorem n_Csrs : ∀ a, a < 17 → ∀ b, b < 17 → a ≠ b → (F_Csrs a).2.1 ≠ (F_Csrs b).2.1 := by decide +kernel
theorem t_Csrs_ok : ∀ k, k < 17 → parseFieldDescriptor (F_Csrs k).2.2.1 = some (t_Csrs k) := by decide +kernel
def F_Hart : u_T := fun k => match k with
  | 0 => ("TwinHart$Hart", "id", "I", true)
  | 1 => ("TwinHart$Hart", "x", "[I", true)
  | 2 => ("TwinHart$Hart", "csrs", "LTwinHart$Csrs;", true)
  | 3 => ("TwinHart$Hart", "pc", "I", false)
  | 4 => ("TwinHart$Hart", "level", "I", false)
  | _ => ("TwinHart$Hart", "trapValue", "I", false)
def t_Hart : Nat → FieldType := fun k => match k with
  | 0 => .int
  | 1 => .array .int
  | 2 => .object "TwinHart$Csrs"
  | 3 => .int
  | 4 => .int
  | _ => .int
theorem n_Hart : ∀ a, a < 6 → ∀ b, b < 6 → a ≠ b → (F_Hart a).2.1 ≠ (F_Hart b).2.1 := by decide +kernel
theorem t_Hart_ok : ∀ k, k < 6 → parseFieldDescriptor (F_Hart k).2.2.1 = some (t_Hart k) := by decide +kernel
def F_Memory : u_T := fun k => match k with
  | 0 => ("TwinHart$Memory", "ram", "[I", true)
  | 1 => ("TwinHart$Memory", "clint", "LTwinHart$Clint;", true)
  | 2 => ("TwinHart$Memory", "console", "[B", true)
  | 3 => ("TwinHart$Memory", "printed", "I", false)
  | _ => ("TwinHart$Memory", "claims", "[J", true)
def t_Memory : Nat → FieldType := fun k => match k with
  | 0 => .array .int
  | 1 => .object "TwinHart$Clint"
  | 2 => .array .byte
  | 3 => .int
  | _ => .array .long
theorem n_Memory : ∀ a, a < 5 → ∀ b, b < 5 → a ≠ b → (F_Memory a).2.1 ≠ (F_Memory b).2.1 := by decide +kernel
theorem t_Memory_ok : ∀ k, k < 5 → parseFieldDescriptor (F_Memory k).2.2.1 = some (t_Memory k) := by decide +kernel
def F_TwinHart : u_T := fun k => match k with
  | 0 => ("TwinHart", "memory", "LTwinHart$Memory;", true)
  | _ => ("TwinHart", "harts", "[LTwinHart$Hart;", true)
def t_TwinHart : Nat → FieldType := fun k => match k with
  | 0 => .object "TwinHart$Memory"
  | _ => .array (.object "TwinHart$Hart")
theorem n_TwinHart : ∀ a, a < 2 → ∀ b, b < 2 → a ≠ b → (F_TwinHart a).2.1 ≠ (F_TwinHart b).2.1 := by decide +kernel
theorem t_TwinHart_ok : ∀ k, k < 2 → parseFieldDescriptor (F_TwinHart k).2.2.1 = some (t_TwinHart k) := by decide +kernel
def F_Model : u_T := fun k => match k with
  | 0 => ("TwinHartModel", "words", "I", true)
  | 1 => ("TwinHartModel", "ram", "[B", true)
  | 2 => ("TwinHartModel", "x", "[I", true)
  | 3 => ("TwinHartModel", "pcs", "[I", true)
  | 4 => ("TwinHartModel", "levels", "[I", true)
  | 5 => ("TwinHartModel", "csrs", "[I", true)
  | 6 => ("TwinHartModel", "claims", "[I", true)
  | 7 => ("TwinHartModel", "compare", "[J", true)
  | 8 => ("TwinHartModel", "soft", "[I", true)
  | 9 => ("TwinHartModel", "time", "J", false)
  | 10 => ("TwinHartModel", "put", "[I", true)
  | 11 => ("TwinHartModel", "puts", "I", false)
  | 12 => ("TwinHartModel", "h", "I", false)
  | 13 => ("TwinHartModel", "cause", "I", false)
  | 14 => ("TwinHartModel", "tval", "I", false)
  | _ => ("TwinHartModel", "next", "I", false)
def t_Model : Nat → FieldType := fun k => match k with
  | 0 => .int
  | 1 => .array .byte
  | 2 => .array .int
  | 3 => .array .int
  | 4 => .array .int
  | 5 => .array .int
  | 6 => .array .int
  | 7 => .array .long
  | 8 => .array .int
  | 9 => .long
  | 10 => .array .int
  | 11 => .int
  | 12 => .int
  | 13 => .int
  | 14 => .int
  | _ => .int
theorem n_Model : ∀ a, a < 16 → ∀ b, b < 16 → a ≠ b → (F_Model a).2.1 ≠ (F_Model b).2.1 := by decide +kernel
theorem t_Model_ok : ∀ k, k < 16 → parseFieldDescriptor (F_Model k).2.2.1 = some (t_Model k) := by decide +kernel
abbrev classes : List vw_C := [(R_TwinHart, F_TwinHart, 2), (R_Memory, F_Memory, 5), (R_Clint, F_Clint, 1), (R_Csrs, F_Csrs, 17), (R_Hart, F_Hart, 6), (R_Model, F_Model, 16)]
abbrev b_TwinHart_init : ByteArray := prog_1_method_1_code
def y_TwinHart_init : MethodName := ⟨R_TwinHart, "<init>", "(I)V"⟩
abbrev b_TwinHart_reset : ByteArray := prog_1_method_2_code
def y_TwinHart_reset : MethodName := ⟨R_TwinHart, "reset", "()V"⟩
abbrev b_TwinHart_poke : ByteArray := prog_1_method_3_code
def y_TwinHart_poke : MethodName := ⟨R_TwinHart, "poke", "(II)Z"⟩
abbrev b_TwinHart_peek : ByteArray := prog_1_method_4_code
def y_TwinHart_peek : MethodName := ⟨R_TwinHart, "peek", "(I)I"⟩
abbrev b_TwinHart_step : ByteArray := prog_1_method_5_code
def y_TwinHart_step : MethodName := ⟨R_TwinHart, "step", "(I)I"⟩
abbrev b_TwinHart_tick : ByteArray := prog_1_method_6_code
def y_TwinHart_tick : MethodName := ⟨R_TwinHart, "tick", "()V"⟩
abbrev b_TwinHart_register : ByteArray := prog_1_method_7_code
def y_TwinHart_register : MethodName := ⟨R_TwinHart, "register", "(II)I"⟩
abbrev b_TwinHart_set : ByteArray := prog_1_method_8_code
def y_TwinHart_set : MethodName := ⟨R_TwinHart, "set", "(III)Z"⟩
abbrev b_TwinHart_pc : ByteArray := prog_1_method_9_code
def y_TwinHart_pc : MethodName := ⟨R_TwinHart, "pc", "(I)I"⟩
abbrev b_TwinHart_csr : ByteArray := prog_1_method_10_code
def y_TwinHart_csr : MethodName := ⟨R_TwinHart, "csr", "(II)I"⟩
abbrev b_TwinHart_put : ByteArray := prog_1_method_11_code
def y_TwinHart_put : MethodName := ⟨R_TwinHart, "put", "(III)Z"⟩
abbrev b_TwinHart_level : ByteArray := prog_1_method_12_code
def y_TwinHart_level : MethodName := ⟨R_TwinHart, "level", "(I)I"⟩
abbrev b_TwinHart_size : ByteArray := prog_1_method_13_code
def y_TwinHart_size : MethodName := ⟨R_TwinHart, "size", "()I"⟩
abbrev b_TwinHart_out : ByteArray := prog_1_method_14_code
def y_TwinHart_out : MethodName := ⟨R_TwinHart, "out", "(I)I"⟩
abbrev b_TwinHart_isHart : ByteArray := prog_1_method_15_code
def y_TwinHart_isHart : MethodName := ⟨R_TwinHart, "isHart", "(I)Z"⟩
abbrev b_TwinHart_isRegister : ByteArray := prog_1_method_16_code
def y_TwinHart_isRegister : MethodName := ⟨R_TwinHart, "isRegister", "(I)Z"⟩
abbrev b_Model_init : ByteArray := prog_12_method_1_code
def y_Model_init : MethodName := ⟨R_Model, "<init>", "(I)V"⟩
abbrev b_Model_begin : ByteArray := prog_12_method_2_code
def y_Model_begin : MethodName := ⟨R_Model, "begin", "()V"⟩
abbrev b_Model_reset : ByteArray := prog_12_method_3_code
def y_Model_reset : MethodName := ⟨R_Model, "reset", "()V"⟩
abbrev b_Model_ramByte : ByteArray := prog_12_method_4_code
def y_Model_ramByte : MethodName := ⟨R_Model, "ramByte", "(I)I"⟩
abbrev b_Model_ramWord : ByteArray := prog_12_method_5_code
def y_Model_ramWord : MethodName := ⟨R_Model, "ramWord", "(I)I"⟩
abbrev b_Model_setBytes : ByteArray := prog_12_method_6_code
def y_Model_setBytes : MethodName := ⟨R_Model, "setBytes", "(III)V"⟩
abbrev b_Model_inRam : ByteArray := prog_12_method_7_code
def y_Model_inRam : MethodName := ⟨R_Model, "inRam", "(J)I"⟩
abbrev b_Model_poke : ByteArray := prog_12_method_8_code
def y_Model_poke : MethodName := ⟨R_Model, "poke", "(II)Z"⟩
abbrev b_Model_peek : ByteArray := prog_12_method_9_code
def y_Model_peek : MethodName := ⟨R_Model, "peek", "(I)I"⟩
abbrev b_Model_isCsr : ByteArray := prog_12_method_10_code
def y_Model_isCsr : MethodName := ⟨R_Model, "isCsr", "(I)Z"⟩
abbrev b_Model_sstatusBits : ByteArray := prog_12_method_11_code
def y_Model_sstatusBits : MethodName := ⟨R_Model, "sstatusBits", "()I"⟩
abbrev b_Model_raw : ByteArray := prog_12_method_12_code
def y_Model_raw : MethodName := ⟨R_Model, "raw", "(II)I"⟩
abbrev b_Model_read : ByteArray := prog_12_method_13_code
def y_Model_read : MethodName := ⟨R_Model, "read", "(II)I"⟩
abbrev b_Model_keep : ByteArray := prog_12_method_14_code
def y_Model_keep : MethodName := ⟨R_Model, "keep", "(IIII)V"⟩
abbrev b_Model_write : ByteArray := prog_12_method_15_code
def y_Model_write : MethodName := ⟨R_Model, "write", "(III)V"⟩
abbrev b_Model_has : ByteArray := prog_12_method_16_code
def y_Model_has : MethodName := ⟨R_Model, "has", "(I)Z"⟩
abbrev b_Model_trap : ByteArray := prog_12_method_17_code
def y_Model_trap : MethodName := ⟨R_Model, "trap", "(II)V"⟩
abbrev b_Model_take : ByteArray := prog_12_method_18_code
def y_Model_take : MethodName := ⟨R_Model, "take", "(IIZ)V"⟩
abbrev b_Model_firstOf : ByteArray := prog_12_method_19_code
def y_Model_firstOf : MethodName := ⟨R_Model, "firstOf", "(I)I"⟩
abbrev b_Model_interrupt : ByteArray := prog_12_method_20_code
def y_Model_interrupt : MethodName := ⟨R_Model, "interrupt", "()I"⟩
abbrev b_Model_accessFault : ByteArray := prog_12_method_21_code
def y_Model_accessFault : MethodName := ⟨R_Model, "accessFault", "(I)I"⟩
abbrev b_Model_pageFault : ByteArray := prog_12_method_22_code
def y_Model_pageFault : MethodName := ⟨R_Model, "pageFault", "(I)I"⟩
abbrev b_Model_levelFor : ByteArray := prog_12_method_23_code
def y_Model_levelFor : MethodName := ⟨R_Model, "levelFor", "(I)I"⟩
abbrev b_Model_isLeaf : ByteArray := prog_12_method_24_code
def y_Model_isLeaf : MethodName := ⟨R_Model, "isLeaf", "(I)Z"⟩
abbrev b_Model_isBad : ByteArray := prog_12_method_25_code
def y_Model_isBad : MethodName := ⟨R_Model, "isBad", "(I)Z"⟩
abbrev b_Model_lets : ByteArray := prog_12_method_26_code
def y_Model_lets : MethodName := ⟨R_Model, "lets", "(III)Z"⟩
abbrev b_Model_translate : ByteArray := prog_12_method_27_code
def y_Model_translate : MethodName := ⟨R_Model, "translate", "(II)J"⟩
abbrev b_Model_clint : ByteArray := prog_12_method_28_code
def y_Model_clint : MethodName := ⟨R_Model, "clint", "(J)I"⟩
abbrev b_Model_clintWord : ByteArray := prog_12_method_29_code
def y_Model_clintWord : MethodName := ⟨R_Model, "clintWord", "(I)I"⟩
abbrev b_Model_setClint : ByteArray := prog_12_method_30_code
def y_Model_setClint : MethodName := ⟨R_Model, "setClint", "(II)V"⟩
abbrev b_Model_place : ByteArray := prog_12_method_31_code
def y_Model_place : MethodName := ⟨R_Model, "place", "(III)J"⟩
abbrev b_Model_load : ByteArray := prog_12_method_32_code
def y_Model_load : MethodName := ⟨R_Model, "load", "(II)I"⟩
abbrev b_Model_store : ByteArray := prog_12_method_33_code
def y_Model_store : MethodName := ⟨R_Model, "store", "(III)V"⟩
abbrev b_Model_claimed : ByteArray := prog_12_method_34_code
def y_Model_claimed : MethodName := ⟨R_Model, "claimed", "(II)I"⟩
abbrev b_Model_reg : ByteArray := prog_12_method_35_code
def y_Model_reg : MethodName := ⟨R_Model, "reg", "(I)I"⟩
abbrev b_Model_setReg : ByteArray := prog_12_method_36_code
def y_Model_setReg : MethodName := ⟨R_Model, "setReg", "(II)V"⟩
abbrev b_Model_field : ByteArray := prog_12_method_37_code
def y_Model_field : MethodName := ⟨R_Model, "field", "(III)I"⟩
abbrev b_Model_go : ByteArray := prog_12_method_38_code
def y_Model_go : MethodName := ⟨R_Model, "go", "(I)V"⟩
abbrev b_Model_below : ByteArray := prog_12_method_39_code
def y_Model_below : MethodName := ⟨R_Model, "below", "(II)Z"⟩
abbrev b_Model_jump : ByteArray := prog_12_method_40_code
def y_Model_jump : MethodName := ⟨R_Model, "jump", "(I)V"⟩
abbrev b_Model_branch : ByteArray := prog_12_method_41_code
def y_Model_branch : MethodName := ⟨R_Model, "branch", "(I)V"⟩
abbrev b_Model_loads : ByteArray := prog_12_method_42_code
def y_Model_loads : MethodName := ⟨R_Model, "loads", "(I)V"⟩
abbrev b_Model_stores : ByteArray := prog_12_method_43_code
def y_Model_stores : MethodName := ⟨R_Model, "stores", "(I)V"⟩
abbrev b_Model_shifted : ByteArray := prog_12_method_44_code
def y_Model_shifted : MethodName := ⟨R_Model, "shifted", "(IIZ)I"⟩
abbrev b_Model_plain : ByteArray := prog_12_method_45_code
def y_Model_plain : MethodName := ⟨R_Model, "plain", "(III)I"⟩
abbrev b_Model_product : ByteArray := prog_12_method_46_code
def y_Model_product : MethodName := ⟨R_Model, "product", "(III)I"⟩
abbrev b_Model_quotient : ByteArray := prog_12_method_47_code
def y_Model_quotient : MethodName := ⟨R_Model, "quotient", "(III)I"⟩
abbrev b_Model_reckon : ByteArray := prog_12_method_48_code
def y_Model_reckon : MethodName := ⟨R_Model, "reckon", "(IZ)V"⟩
abbrev b_Model_changed : ByteArray := prog_12_method_49_code
def y_Model_changed : MethodName := ⟨R_Model, "changed", "(III)I"⟩
abbrev b_Model_claims : ByteArray := prog_12_method_50_code
def y_Model_claims : MethodName := ⟨R_Model, "claims", "(I)V"⟩
abbrev b_Model_machine : ByteArray := prog_12_method_51_code
def y_Model_machine : MethodName := ⟨R_Model, "machine", "(I)V"⟩
abbrev b_Model_csrs : ByteArray := prog_12_method_52_code
def y_Model_csrs : MethodName := ⟨R_Model, "csrs", "(I)V"⟩
abbrev b_Model_execute : ByteArray := prog_12_method_53_code
def y_Model_execute : MethodName := ⟨R_Model, "execute", "(I)V"⟩
abbrev b_Model_fetch : ByteArray := prog_12_method_54_code
def y_Model_fetch : MethodName := ⟨R_Model, "fetch", "()I"⟩
abbrev b_Model_isHart : ByteArray := prog_12_method_55_code
def y_Model_isHart : MethodName := ⟨R_Model, "isHart", "(I)Z"⟩
abbrev b_Model_step : ByteArray := prog_12_method_56_code
def y_Model_step : MethodName := ⟨R_Model, "step", "(I)I"⟩
abbrev b_Model_tick : ByteArray := prog_12_method_57_code
def y_Model_tick : MethodName := ⟨R_Model, "tick", "()V"⟩
abbrev b_Model_register : ByteArray := prog_12_method_58_code
def y_Model_register : MethodName := ⟨R_Model, "register", "(II)I"⟩
abbrev b_Model_set : ByteArray := prog_12_method_59_code
def y_Model_set : MethodName := ⟨R_Model, "set", "(III)Z"⟩
abbrev b_Model_pc : ByteArray := prog_12_method_60_code
def y_Model_pc : MethodName := ⟨R_Model, "pc", "(I)I"⟩
abbrev b_Model_csr : ByteArray := prog_12_method_61_code
def y_Model_csr : MethodName := ⟨R_Model, "csr", "(II)I"⟩
abbrev b_Model_put : ByteArray := prog_12_method_62_code
def y_Model_put : MethodName := ⟨R_Model, "put", "(III)Z"⟩
abbrev b_Model_level : ByteArray := prog_12_method_63_code
def y_Model_level : MethodName := ⟨R_Model, "level", "(I)I"⟩
abbrev b_Model_size : ByteArray := prog_12_method_64_code
def y_Model_size : MethodName := ⟨R_Model, "size", "()I"⟩
abbrev b_Model_out : ByteArray := prog_12_method_65_code
def y_Model_out : MethodName := ⟨R_Model, "out", "(I)I"⟩
abbrev b_Alu_below : ByteArray := prog_3_method_2_code
def y_Alu_below : MethodName := ⟨R_Alu, "below", "(II)Z"⟩
abbrev b_Alu_plain : ByteArray := prog_3_method_3_code
def y_Alu_plain : MethodName := ⟨R_Alu, "plain", "(III)I"⟩
abbrev b_Alu_multiplied : ByteArray := prog_3_method_4_code
def y_Alu_multiplied : MethodName := ⟨R_Alu, "multiplied", "(III)I"⟩
abbrev b_Alu_divided : ByteArray := prog_3_method_5_code
def y_Alu_divided : MethodName := ⟨R_Alu, "divided", "(III)I"⟩
abbrev b_Alu_branches : ByteArray := prog_3_method_6_code
def y_Alu_branches : MethodName := ⟨R_Alu, "branches", "(III)Z"⟩
abbrev b_Alu_changed : ByteArray := prog_3_method_7_code
def y_Alu_changed : MethodName := ⟨R_Alu, "changed", "(III)I"⟩
abbrev b_Clint_init : ByteArray := prog_4_method_1_code
def y_Clint_init : MethodName := ⟨R_Clint, "<init>", "()V"⟩
abbrev b_Clint_restart : ByteArray := prog_4_method_2_code
def y_Clint_restart : MethodName := ⟨R_Clint, "restart", "()V"⟩
abbrev b_Clint_advance : ByteArray := prog_4_method_3_code
def y_Clint_advance : MethodName := ⟨R_Clint, "advance", "()V"⟩
abbrev b_Clint_lines : ByteArray := prog_4_method_4_code
def y_Clint_lines : MethodName := ⟨R_Clint, "lines", "(I)I"⟩
abbrev b_Clint_isBelow : ByteArray := prog_4_method_5_code
def y_Clint_isBelow : MethodName := ⟨R_Clint, "isBelow", "(II)Z"⟩
abbrev b_Clint_slotAt : ByteArray := prog_4_method_6_code
def y_Clint_slotAt : MethodName := ⟨R_Clint, "slotAt", "(J)I"⟩
abbrev b_Clint_store : ByteArray := prog_4_method_7_code
def y_Clint_store : MethodName := ⟨R_Clint, "store", "(JI)V"⟩
abbrev b_Csrs_init : ByteArray := prog_5_method_1_code
def y_Csrs_init : MethodName := ⟨R_Csrs, "<init>", "(I)V"⟩
abbrev b_Csrs_restart : ByteArray := prog_5_method_2_code
def y_Csrs_restart : MethodName := ⟨R_Csrs, "restart", "()V"⟩
abbrev b_Csrs_isTold : ByteArray := prog_5_method_3_code
def y_Csrs_isTold : MethodName := ⟨R_Csrs, "isTold", "(I)Z"⟩
abbrev b_Csrs_isReadOnly : ByteArray := prog_5_method_4_code
def y_Csrs_isReadOnly : MethodName := ⟨R_Csrs, "isReadOnly", "(I)Z"⟩
abbrev b_Csrs_isAllowed : ByteArray := prog_5_method_5_code
def y_Csrs_isAllowed : MethodName := ⟨R_Csrs, "isAllowed", "(IIZ)Z"⟩
abbrev b_Csrs_read : ByteArray := prog_5_method_6_code
def y_Csrs_read : MethodName := ⟨R_Csrs, "read", "(II)I"⟩
abbrev b_Csrs_write : ByteArray := prog_5_method_7_code
def y_Csrs_write : MethodName := ⟨R_Csrs, "write", "(II)V"⟩
abbrev b_Csrs_writeSupervisor : ByteArray := prog_5_method_8_code
def y_Csrs_writeSupervisor : MethodName := ⟨R_Csrs, "writeSupervisor", "(II)V"⟩
abbrev b_Csrs_writeMachine : ByteArray := prog_5_method_9_code
def y_Csrs_writeMachine : MethodName := ⟨R_Csrs, "writeMachine", "(II)V"⟩
abbrev b_Csrs_merged : ByteArray := prog_5_method_10_code
def y_Csrs_merged : MethodName := ⟨R_Csrs, "merged", "(III)I"⟩
abbrev b_Csrs_withoutLevelTwo : ByteArray := prog_5_method_11_code
def y_Csrs_withoutLevelTwo : MethodName := ⟨R_Csrs, "withoutLevelTwo", "(I)I"⟩
abbrev b_Csrs_dueInterrupt : ByteArray := prog_5_method_12_code
def y_Csrs_dueInterrupt : MethodName := ⟨R_Csrs, "dueInterrupt", "(II)I"⟩
abbrev b_Csrs_firstOf : ByteArray := prog_5_method_13_code
def y_Csrs_firstOf : MethodName := ⟨R_Csrs, "firstOf", "(I)I"⟩
abbrev b_Csrs_handsDownTrap : ByteArray := prog_5_method_14_code
def y_Csrs_handsDownTrap : MethodName := ⟨R_Csrs, "handsDownTrap", "(I)Z"⟩
abbrev b_Csrs_handsDownInterrupt : ByteArray := prog_5_method_15_code
def y_Csrs_handsDownInterrupt : MethodName := ⟨R_Csrs, "handsDownInterrupt", "(I)Z"⟩
abbrev b_Csrs_enterSupervisor : ByteArray := prog_5_method_16_code
def y_Csrs_enterSupervisor : MethodName := ⟨R_Csrs, "enterSupervisor", "(IIII)I"⟩
abbrev b_Csrs_enterMachine : ByteArray := prog_5_method_17_code
def y_Csrs_enterMachine : MethodName := ⟨R_Csrs, "enterMachine", "(IIII)I"⟩
abbrev b_Csrs_leaveSupervisor : ByteArray := prog_5_method_18_code
def y_Csrs_leaveSupervisor : MethodName := ⟨R_Csrs, "leaveSupervisor", "()I"⟩
abbrev b_Csrs_leaveMachine : ByteArray := prog_5_method_19_code
def y_Csrs_leaveMachine : MethodName := ⟨R_Csrs, "leaveMachine", "()I"⟩
abbrev b_Csrs_dataLevel : ByteArray := prog_5_method_20_code
def y_Csrs_dataLevel : MethodName := ⟨R_Csrs, "dataLevel", "(I)I"⟩
abbrev b_Csrs_hasPages : ByteArray := prog_5_method_21_code
def y_Csrs_hasPages : MethodName := ⟨R_Csrs, "hasPages", "()Z"⟩
abbrev b_Csrs_rootPage : ByteArray := prog_5_method_22_code
def y_Csrs_rootPage : MethodName := ⟨R_Csrs, "rootPage", "()I"⟩
abbrev b_Csrs_levelBefore : ByteArray := prog_5_method_23_code
def y_Csrs_levelBefore : MethodName := ⟨R_Csrs, "levelBefore", "()I"⟩
abbrev b_Csrs_has : ByteArray := prog_5_method_24_code
def y_Csrs_has : MethodName := ⟨R_Csrs, "has", "(I)Z"⟩
abbrev b_Fault_of : ByteArray := prog_6_method_2_code
def y_Fault_of : MethodName := ⟨R_Fault, "of", "(I)J"⟩
abbrev b_Fault_causeOf : ByteArray := prog_6_method_3_code
def y_Fault_causeOf : MethodName := ⟨R_Fault, "causeOf", "(J)I"⟩
abbrev b_Field_rd : ByteArray := prog_7_method_2_code
def y_Field_rd : MethodName := ⟨R_Field, "rd", "(I)I"⟩
abbrev b_Field_rs1 : ByteArray := prog_7_method_3_code
def y_Field_rs1 : MethodName := ⟨R_Field, "rs1", "(I)I"⟩
abbrev b_Field_rs2 : ByteArray := prog_7_method_4_code
def y_Field_rs2 : MethodName := ⟨R_Field, "rs2", "(I)I"⟩
abbrev b_Field_f3 : ByteArray := prog_7_method_5_code
def y_Field_f3 : MethodName := ⟨R_Field, "f3", "(I)I"⟩
abbrev b_Field_f7 : ByteArray := prog_7_method_6_code
def y_Field_f7 : MethodName := ⟨R_Field, "f7", "(I)I"⟩
abbrev b_Field_immediate : ByteArray := prog_7_method_7_code
def y_Field_immediate : MethodName := ⟨R_Field, "immediate", "(I)I"⟩
abbrev b_Field_upper : ByteArray := prog_7_method_8_code
def y_Field_upper : MethodName := ⟨R_Field, "upper", "(I)I"⟩
abbrev b_Field_storeOffset : ByteArray := prog_7_method_9_code
def y_Field_storeOffset : MethodName := ⟨R_Field, "storeOffset", "(I)I"⟩
abbrev b_Field_jumpOffset : ByteArray := prog_7_method_10_code
def y_Field_jumpOffset : MethodName := ⟨R_Field, "jumpOffset", "(I)I"⟩
abbrev b_Field_branchOffset : ByteArray := prog_7_method_11_code
def y_Field_branchOffset : MethodName := ⟨R_Field, "branchOffset", "(I)I"⟩
abbrev b_Hart_init : ByteArray := prog_8_method_1_code
def y_Hart_init : MethodName := ⟨R_Hart, "<init>", "(I)V"⟩
abbrev b_Hart_restart : ByteArray := prog_8_method_2_code
def y_Hart_restart : MethodName := ⟨R_Hart, "restart", "()V"⟩
abbrev b_Hart_run : ByteArray := prog_8_method_3_code
def y_Hart_run : MethodName := ⟨R_Hart, "run", "(LTwinHart$Memory;)I"⟩
abbrev b_Hart_execute : ByteArray := prog_8_method_4_code
def y_Hart_execute : MethodName := ⟨R_Hart, "execute", "(ILTwinHart$Memory;)I"⟩
abbrev b_Hart_goOn : ByteArray := prog_8_method_5_code
def y_Hart_goOn : MethodName := ⟨R_Hart, "goOn", "()I"⟩
abbrev b_Hart_finish : ByteArray := prog_8_method_6_code
def y_Hart_finish : MethodName := ⟨R_Hart, "finish", "(II)I"⟩
abbrev b_Hart_write : ByteArray := prog_8_method_7_code
def y_Hart_write : MethodName := ⟨R_Hart, "write", "(II)V"⟩
abbrev b_Hart_trap : ByteArray := prog_8_method_8_code
def y_Hart_trap : MethodName := ⟨R_Hart, "trap", "(II)I"⟩
abbrev b_Hart_illegal : ByteArray := prog_8_method_9_code
def y_Hart_illegal : MethodName := ⟨R_Hart, "illegal", "(I)I"⟩
abbrev b_Hart_fault : ByteArray := prog_8_method_10_code
def y_Hart_fault : MethodName := ⟨R_Hart, "fault", "(JI)I"⟩
abbrev b_Hart_take : ByteArray := prog_8_method_11_code
def y_Hart_take : MethodName := ⟨R_Hart, "take", "(IIZ)V"⟩
abbrev b_Hart_locate : ByteArray := prog_8_method_12_code
def y_Hart_locate : MethodName := ⟨R_Hart, "locate", "(IILTwinHart$Access;LTwinHart$Memory;)J"⟩
abbrev b_Hart_jump : ByteArray := prog_8_method_13_code
def y_Hart_jump : MethodName := ⟨R_Hart, "jump", "(II)I"⟩
abbrev b_Hart_jumpByRegister : ByteArray := prog_8_method_14_code
def y_Hart_jumpByRegister : MethodName := ⟨R_Hart, "jumpByRegister", "(I)I"⟩
abbrev b_Hart_branch : ByteArray := prog_8_method_15_code
def y_Hart_branch : MethodName := ⟨R_Hart, "branch", "(I)I"⟩
abbrev b_Hart_load : ByteArray := prog_8_method_16_code
def y_Hart_load : MethodName := ⟨R_Hart, "load", "(ILTwinHart$Memory;)I"⟩
abbrev b_Hart_store : ByteArray := prog_8_method_17_code
def y_Hart_store : MethodName := ⟨R_Hart, "store", "(ILTwinHart$Memory;)I"⟩
abbrev b_Hart_computeWithImmediate : ByteArray := prog_8_method_18_code
def y_Hart_computeWithImmediate : MethodName := ⟨R_Hart, "computeWithImmediate", "(I)I"⟩
abbrev b_Hart_compute : ByteArray := prog_8_method_19_code
def y_Hart_compute : MethodName := ⟨R_Hart, "compute", "(I)I"⟩
abbrev b_Hart_changeAtOnce : ByteArray := prog_8_method_20_code
def y_Hart_changeAtOnce : MethodName := ⟨R_Hart, "changeAtOnce", "(ILTwinHart$Memory;)I"⟩
abbrev b_Hart_isChange : ByteArray := prog_8_method_21_code
def y_Hart_isChange : MethodName := ⟨R_Hart, "isChange", "(II)Z"⟩
abbrev b_Hart_callSystem : ByteArray := prog_8_method_22_code
def y_Hart_callSystem : MethodName := ⟨R_Hart, "callSystem", "(I)I"⟩
abbrev b_Hart_returnFromMachine : ByteArray := prog_8_method_23_code
def y_Hart_returnFromMachine : MethodName := ⟨R_Hart, "returnFromMachine", "()I"⟩
abbrev b_Hart_returnFromSupervisor : ByteArray := prog_8_method_24_code
def y_Hart_returnFromSupervisor : MethodName := ⟨R_Hart, "returnFromSupervisor", "()I"⟩
abbrev b_Hart_exchange : ByteArray := prog_8_method_25_code
def y_Hart_exchange : MethodName := ⟨R_Hart, "exchange", "(ILTwinHart$Memory;)I"⟩
abbrev b_Hart_mixed : ByteArray := prog_8_method_26_code
def y_Hart_mixed : MethodName := ⟨R_Hart, "mixed", "(III)I"⟩
abbrev b_Memory_init : ByteArray := prog_9_method_1_code
def y_Memory_init : MethodName := ⟨R_Memory, "<init>", "(I)V"⟩
abbrev b_Memory_restart : ByteArray := prog_9_method_2_code
def y_Memory_restart : MethodName := ⟨R_Memory, "restart", "()V"⟩
abbrev b_Memory_hasWord : ByteArray := prog_9_method_3_code
def y_Memory_hasWord : MethodName := ⟨R_Memory, "hasWord", "(I)Z"⟩
abbrev b_Memory_isRam : ByteArray := prog_9_method_4_code
def y_Memory_isRam : MethodName := ⟨R_Memory, "isRam", "(J)Z"⟩
abbrev b_Memory_allows : ByteArray := prog_9_method_5_code
def y_Memory_allows : MethodName := ⟨R_Memory, "allows", "(JILTwinHart$Access;)Z"⟩
abbrev b_Memory_wordAt : ByteArray := prog_9_method_6_code
def y_Memory_wordAt : MethodName := ⟨R_Memory, "wordAt", "(J)I"⟩
abbrev b_Memory_load : ByteArray := prog_9_method_7_code
def y_Memory_load : MethodName := ⟨R_Memory, "load", "(JI)I"⟩
abbrev b_Memory_store : ByteArray := prog_9_method_8_code
def y_Memory_store : MethodName := ⟨R_Memory, "store", "(JII)V"⟩
abbrev b_Memory_print : ByteArray := prog_9_method_9_code
def y_Memory_print : MethodName := ⟨R_Memory, "print", "(I)V"⟩
abbrev b_Memory_claim : ByteArray := prog_9_method_10_code
def y_Memory_claim : MethodName := ⟨R_Memory, "claim", "(IJ)V"⟩
abbrev b_Memory_storeIfClaimed : ByteArray := prog_9_method_11_code
def y_Memory_storeIfClaimed : MethodName := ⟨R_Memory, "storeIfClaimed", "(IJI)Z"⟩
abbrev b_Memory_dropClaims : ByteArray := prog_9_method_12_code
def y_Memory_dropClaims : MethodName := ⟨R_Memory, "dropClaims", "()V"⟩
abbrev b_Memory_indexOf : ByteArray := prog_9_method_13_code
def y_Memory_indexOf : MethodName := ⟨R_Memory, "indexOf", "(J)I"⟩
abbrev b_Memory_shiftOf : ByteArray := prog_9_method_14_code
def y_Memory_shiftOf : MethodName := ⟨R_Memory, "shiftOf", "(J)I"⟩
abbrev b_Memory_maskOf : ByteArray := prog_9_method_15_code
def y_Memory_maskOf : MethodName := ⟨R_Memory, "maskOf", "(I)I"⟩
abbrev b_Pages_placeOf : ByteArray := prog_10_method_2_code
def y_Pages_placeOf : MethodName := ⟨R_Pages, "placeOf", "(ILTwinHart$Access;ILTwinHart$Csrs;LTwinHart$Memory;)J"⟩
abbrev b_Pages_entryPlace : ByteArray := prog_10_method_3_code
def y_Pages_entryPlace : MethodName := ⟨R_Pages, "entryPlace", "(II)J"⟩
abbrev b_Pages_isPage : ByteArray := prog_10_method_4_code
def y_Pages_isPage : MethodName := ⟨R_Pages, "isPage", "(I)Z"⟩
abbrev b_Pages_admits : ByteArray := prog_10_method_5_code
def y_Pages_admits : MethodName := ⟨R_Pages, "admits", "(ILTwinHart$Access;II)Z"⟩
abbrev b_law_cell : ByteArray := method_2_code
def y_law_cell : MethodName := ⟨R_law, "cell", "([II)I"⟩
-- ===== base: one list of words for every method, one form of contract =====
def tb : List Cond := lw_tbl.filter goodWord
theorem tb_in {w : Cond} (h : w ∈ lw_tbl) (hg : goodWord w = true) : w ∈ tb := List.mem_filter.mpr ⟨h, hg⟩
theorem tb_sub {w : Cond} (h : w ∈ tb) : w ∈ lw_tbl := (List.mem_filter.mp h).1
theorem tb_good {w : Cond} (h : w ∈ tb) : goodWord w = true := (List.mem_filter.mp h).2
theorem tb_G {w0 : Cond} (h0 : w0 ∈ tb) : GoodIn tb (w0 :: tb) := by
  intro w h
  rcases List.mem_cons.mp h with rfl | h
  · exact ⟨h0, good_of_word (tb_good h0)⟩
  · exact ⟨h, good_of_word (tb_good h)⟩
/-- links between nest mates aren't words that travel: they go along in the contracts -/
def isNest (w : Cond) : Bool := match w with
  | .fieldLinkNest .. => true
  | .methodLinkNest .. => true
  | _ => false
def NW (U : State) : Prop := ∀ w ∈ lw_tbl, isNest w = true → va_Nw w U
theorem NW.warm {s U : State} (hW : s.WarmedH U.vm) (h : NW s) : NW U := by
  intro w hw hn
  cases w <;> first | exact va_Nw.warmF hW (h _ hw hn) | exact va_Nw.warmM hW (h _ hw hn) | exact absurd hn (by simp [isNest])
theorem NW.same {u U : State} (hv : u.vm = U.vm) (h : NW u) : NW U := fun w hw hn => va_Nw.same (by cases w <;> first | rfl | (simp [isNest] at hn)) hv (h w hw hn)
-- ===== what the start gives of statics: the enum's constants, the table of interrupts =====
theorem tb_m {w : Cond} (i : Nat) (h : tables_1[i]? = some w) (hg : goodWord w = true) : w ∈ tb := tb_in (List.mem_append_right _ (List.mem_of_getElem? h)) hg
theorem tb_p {w : Cond} (i : Nat) (h : (k2_sels lw_privs)[i]? = some w) (hg : goodWord w = true) : w ∈ tb := tb_in (List.mem_append_left _ (List.mem_of_getElem? h)) hg
theorem u_in_tb {C : String} {T : u_T} {N : Nat} (ps : List Nat) (h : u_ws C T N = ps.filterMap (fun i => tables_1[i]?)) (hg : (u_ws C T N).all goodWord = true) : ∀ w ∈ u_ws C T N, w ∈ tb := by
  intro w hw
  have h1 := List.all_eq_true.mp hg w hw
  rw [h] at hw
  obtain ⟨i, -, hi⟩ := List.mem_filterMap.mp hw
  exact tb_m i hi h1
abbrev aF_misaligned : List Int32 := [0, 4, 6, 4, 6]
abbrev aF_accessFault : List Int32 := [1, 5, 7, 5, 7]
abbrev aF_pageFault : List Int32 := [12, 13, 15, 13, 15]
abbrev aF_ramAlone : List Int32 := [1, 0, 0, 1, 1]
abbrev aF_stores : List Int32 := [0, 0, 1, 0, 1]
abbrev q_misaligned : String × String × String × List Int32 := (R_Access, "misaligned", "I", aF_misaligned)
abbrev q_accessFault : String × String × String × List Int32 := (R_Access, "accessFault", "I", aF_accessFault)
abbrev q_pageFault : String × String × String × List Int32 := (R_Access, "pageFault", "I", aF_pageFault)
abbrev q_ramAlone : String × String × String × List Int32 := (R_Access, "ramAlone", "Z", aF_ramAlone)
abbrev q_stores : String × String × String × List Int32 := (R_Access, "stores", "Z", aF_stores)
abbrev FlA : List (String × String × String × List Int32) := [q_misaligned, q_accessFault, q_pageFault, q_ramAlone, q_stores]
abbrev nmA : List String := ["FETCH", "LOAD", "STORE", "CLAIM", "CHANGE"]
abbrev tabF : Nat → Value := fun j => .int (([3, 7, 9, 1, 5] : List Int32).getD j 0)
def SF (g : Nat → Nat) (A : Nat → Prop) (U : State) (H : Heap) : Prop :=
  NW U ∧ va_En R_Access "LTwinHart$Access;" nmA FlA (fun i => g (i + 1)) A U H ∧ va_Z R_Csrs "INTERRUPT_ORDER" "[I" (.ref (g 0)) A U H ∧ va_T .int (g 0) 5 tabF A U H
theorem SF.kept {g : Nat → Nat} {A : Nat → Prop} {U : State} {H H1 : Heap} (h : SF g A U H) (hq : ∀ a : Nat, a < H.size → ¬ A a → H1[a]? = H[a]?) : SF g A U H1 := ⟨h.1, h.2.1.kept hq, h.2.2.1.kept hq, h.2.2.2.kept hq⟩
theorem SF.narrow {g : Nat → Nat} {A B : Nat → Prop} {U : State} {H : Heap} (h : SF g A U H) (hAB : ∀ q, B q → A q) : SF g B U H := ⟨h.1, h.2.1.narrow hAB, h.2.2.1.narrow hAB, h.2.2.2.narrow hAB⟩
theorem SF.warm {g : Nat → Nat} {A : Nat → Prop} {s U : State} {H : Heap} (hW : s.WarmedH U.vm) (h : SF g A s H) : SF g A U H := ⟨h.1.warm hW, va_En.moved hW.alike h.2.1, va_Z.moved hW.alike h.2.2.1, va_T.moved hW.alike h.2.2.2⟩
theorem SF.same {g : Nat → Nat} {A : Nat → Prop} {u U : State} {H H1 : Heap} (hv : u.vm = U.vm) (hh : H = H1) (h : SF g A u H) : SF g A U H1 := by
  subst hh
  have al : u.vm.Alike U.vm := by rw [hv]; exact Vm.Alike.refl _
  exact ⟨h.1.same hv, va_En.moved al h.2.1, va_Z.moved al h.2.2.1, va_T.moved al h.2.2.2⟩
-- ===== the class's worlds =====
abbrev TM : Type := (Nat → Int32) × (Nat → Int32) × (Nat → Int32) × Int32 × (Nat → Int64)
abbrev TH : Type := TM × (Nat → Int32) × Int32 × Int32 × Int32 × (Nat → Int32)
abbrev csF (q : Nat → Int32) : List Value := [.int (q 0), .int (q 1), .int (q 2), .int (q 3), .int (q 4), .int (q 5), .int (q 6), .int (q 7), .int (q 8), .int (q 9), .int (q 10), .int (q 11), .int (q 12), .int (q 13), .int (q 14), .int (q 15), .int (q 16)]
abbrev wC (h : Nat) (q : Nat → Int32) : va_W := [(h, .inr (3, csF q))]
abbrev wK (a : Nat → Nat) (k : Nat → ClassId) (w : Nat → Int32) : va_W := [(a 1, .inr (2, [.ref (a 2)])), (a 2, .inl (k 0, 8, .inl w))]
abbrev wM (a : Nat → Nat) (k : Nat → ClassId) (n : Nat) (M : TM) : va_W := [(a 0, .inr (1, [.ref (a 3), .ref (a 1), .ref (a 4), .int M.2.2.2.1, .ref (a 5)])), (a 1, .inr (2, [.ref (a 2)])), (a 2, .inl (k 0, 8, .inl M.1)), (a 3, .inl (k 1, n, .inl M.2.1)), (a 4, .inl (k 2, 256, .inl M.2.2.1)), (a 5, .inl (k 3, 2, .inr (.inl M.2.2.2.2)))]
abbrev wH (a : Nat → Nat) (k : Nat → ClassId) (n : Nat) (id : Int32) (σ : TH) : va_W := [(a 0, .inr (1, [.ref (a 3), .ref (a 1), .ref (a 4), .int σ.1.2.2.2.1, .ref (a 5)])), (a 1, .inr (2, [.ref (a 2)])), (a 2, .inl (k 0, 8, .inl σ.1.1)), (a 3, .inl (k 1, n, .inl σ.1.2.1)), (a 4, .inl (k 2, 256, .inl σ.1.2.2.1)), (a 5, .inl (k 3, 2, .inr (.inl σ.1.2.2.2.2))), (a 6, .inr (4, [.int id, .ref (a 7), .ref (a 8), .int σ.2.2.1, .int σ.2.2.2.1, .int σ.2.2.2.2.1])), (a 7, .inl (k 4, 32, .inl σ.2.1)), (a 8, .inr (3, csF σ.2.2.2.2.2))]
abbrev tyM (k : Nat → ClassId) : List (ClassId × FieldType) := [(k 0, .int), (k 1, .int), (k 2, .byte), (k 3, .long)]
abbrev tyH (k : Nat → ClassId) : List (ClassId × FieldType) := [(k 0, .int), (k 1, .int), (k 2, .byte), (k 3, .long), (k 4, .int)]
/-- what a call of y needs of the tables -/
def MW (y : MethodName) (b : ByteArray) (nL : Nat) (ret : Option FieldType) (n : Nat) : Prop :=
  Cond.code y b nL ret ∈ tb ∧ Cond.initialized y.cls ∈ tb ∧ (y.cls ≠ "java/lang/invoke/MethodHandle" ∧ y.cls ≠ "java/lang/invoke/VarHandle" ∧ (parseMethodDescriptor y.desc).map (fun d => d.parameters.length) = some n)
def MWV (y : MethodName) : Prop := Cond.instanceMethod y ∈ tb ∧ Cond.selects y.cls y y ∈ tb
def MWS (y : MethodName) : Prop := Cond.static y ∈ tb
def PcT (D : va_G) (g : Nat → Nat) (As : List Value) (ws : va_W) (tys : List (ClassId × FieldType)) (sz : Nat) : Array Value → State → Prop :=
  va_Pc As (fun U => U.heap.size = sz ∧ va_P D classes ws U.heap ∧ va_K D classes tys U ∧ va_D (fun _ => True) ws ∧ SF g (va_A ws sz) U U.heap)
def BT {S : Type} (D : va_G) (W1 : S → va_W) (A : Nat → Prop) (u : S) (t : State) : Prop := va_P D classes (W1 u) t.heap ∧ va_D A (W1 u)
abbrev TQ : Type := (Nat → Prop) → Array Value → State → Outcome → State → Prop
abbrev Qi {S : Type} (D : va_G) (post : Int32 → S → Prop) (W1 : S → va_W) : TQ := fun A => va_Qi post (BT D W1 A) A
abbrev Ql {S : Type} (D : va_G) (post : Int64 → S → Prop) (W1 : S → va_W) : TQ := fun A => va_Ql post (BT D W1 A) A
abbrev Qv {S : Type} (D : va_G) (post : S → Prop) (W1 : S → va_W) : TQ := fun A => va_Qv post (BT D W1 A) A
/-- the contract of a method that makes no cell -/
def CT (l : Launch) (D : va_G) (g : Nat → Nat) (y : MethodName) (b : ByteArray) (nL : Nat) (ret : Option FieldType) (rm : Room) (As : List Value) (ws : va_W) (tys : List (ClassId × FieldType)) (Qc : TQ) : Prop :=
  ∀ sz : Nat, Met l y (.code y b nL ret :: tb) rm (PcT D g As ws tys sz) (Qc (va_A ws sz)) 0 0 (va_A ws sz)
abbrev rD (d : Nat) : Room := { frames := d, cells := 0, slots := 0, locals := 48 * d }
section Base1
variable {l : Launch} {D : va_G} {g : Nat → Nat} {y : MethodName} {b : ByteArray} {nL : Nat} {ret : Option FieldType} {rm : Room} {As : List Value} {ws : va_W} {tys : List (ClassId × FieldType)} {Qc : TQ}
theorem CT.of (hy : plainName y.cls = true) (hn : (lg_sl As).length ≤ nL)
    (body : ∀ (p : Program) (e : Env) (s : State) (m : MethodId) (below : List Frame) (meth : Method) (c : Code) (A : Nat → Prop) (ls : Array Slot), p.tables.exec = Jvm.exec → c.code = b → meth.sig.returnType = ret → c.maxLocals = nL → (∀ w ∈ tb, w.before As.toArray s = true) → s.vm.findClass y.cls = some m.cls → meth.locks = false → (∀ q : Nat, s.heap.size ≤ q → A q) → va_P D classes ws s.heap → va_K D classes tys s → va_D A ws → SF g A s s.heap → va_S A s.heap s.heap [] → lv_has ls nL (lv_args 0 As) →
      W p l e rm s m As.toArray below meth c s.heap [] 0 0 (MQ below (Qc A) As.toArray s 0 0 A) (F0 m 0 ls [])) : CT l D g y b nL ret rm As ws tys Qc := by
  intro sz
  refine Met.ofW (cc := b) (maxL := nL) (ret := ret) hy rfl ?_
  intro p e s m args below meth c s₁ B hml hv
  obtain ⟨rfl, hsz, hP, hK, hD0, hF⟩ := hv
  have hts := atoms_spec (ws := .code y b nL ret :: tb) B.pre
  have hown : s.vm.findClass y.cls = some m.cls := findClass_of_methodNamed B.named
  subst hsz
  have hD := hD0.self (sz := s.heap.size)
  have hl := lv_entry As (n := nL) hn
  rw [lg_entry_eq]
  exact body p e s m below meth c _ _ B.exec B.bytes B.returns hml (fun w h => hts w (List.mem_cons_of_mem _ h)) hown B.notSynchronized (fun q h => Or.inr h) hP hK hD hF va_S.rf hl
end Base1
section Base2
variable {p : Program} {l : Launch} {e : Env} {R : Room} {s : State} {m : MethodId} {args : Array Value} {below : List Frame} {meth : Method} {c : Code} {H : Heap} {locs : List Loc} {cells slots : Nat} {Q : State → Prop}
variable {D : va_G} {g : Nat → Nat} {y : MethodName} {yb cc : ByteArray} {yn nL index n pc : Nat} {ret : Option FieldType} {rm : Room} {As rest st0 : List Value} {ws wc wr : va_W} {tys tysc : List (ClassId × FieldType)} {Qc : TQ} {A : Nat → Prop} {own host : String} {ls : Array Slot} {a : Nat}
/-- what the callee's start asks, out of the caller's world -/
theorem x_pre (hK : va_K D classes tys s) (hP : va_P D classes ws H) (hD : va_D A ws) (hS : va_S A s.heap H locs) (hA : ∀ q : Nat, s.heap.size ≤ q → A q) (hF : SF g A s s.heap) (isC isT : List Nat) (hC : isC.map (fun i => ws[i]?) = wc.map some) (hnC : va_nd isC = true) (hT : isT.filterMap (fun i => tys[i]?) = tysc) :
    FrameBlind (PcT D g As wc tysc H.size) ∧ ∀ U : State, U.heap = H → s.WarmedH U.vm → PcT D g As wc tysc H.size As.toArray U := by
  have hf := va_free (wc := wc) hD hS hA isC hC
  refine ⟨fun a U g1 mk q => ?_, fun U hU hW => ⟨rfl, by rw [hU], ?_, va_K.moved hW.alike (hK.sub isT hT), (hD.sub isC hnC hC).weaken (fun _ _ _ _ => trivial), ?_⟩⟩
  · obtain ⟨q0, q1, qP, qK, qD, qF⟩ := q
    exact ⟨q0, q1, qP, va_K.moved (u := U) (U := U.calling g1 mk a) (Vm.Alike.refl U.vm) qK, qD, SF.same (u := U) (U := U.calling g1 mk a) rfl rfl qF⟩
  · rw [hU]
    intro k q hk
    have h1 : (isC.map (fun i => ws[i]?))[k]? = some (some q) := by rw [hC, List.getElem?_map, hk]; rfl
    rw [List.getElem?_map] at h1
    cases hi : isC[k]? with
    | none => rw [hi] at h1; cases h1
    | some i => rw [hi] at h1; exact hP i q (Option.some.inj h1)
  · rw [hU]
    exact ((hF.kept hS.2.1).narrow hf).warm hW
theorem x_cb (C : CallFix p m c cc nL s args tb own) (hw : MW y yb yn ret n) (hlink : Cond.methodLink own index y ∈ tb) (hrm : rm.cells = 0 ∧ rm.slots = 0 ∧ rm.frames + 1 ≤ R.frames ∧ 8 + (yn + 11) + rm.locals ≤ R.locals) :
    CallB R s args own index y yb yn ret (.code y yb yn ret :: tb) rm 0 0 n :=
  callB_of n C.2.2.2.2 (tb_G hw.1) rfl hrm.1 hrm.2.1 (C.2.2.2.2 _ hw.2.1) (C.2.2.2.2 _ hlink) hw.2.2 hrm.2.2
/-- an instance method of its own class -/
theorem xV (C : CallFix p m c cc nL s args tb own) (hM : CT l D g y yb yn ret rm (.ref a :: As) wc tysc Qc) (hw : MW y yb yn ret n) (hv : MWV y) (hlink : Cond.methodLink own index y ∈ tb) (hrm : rm.cells = 0 ∧ rm.slots = 0 ∧ rm.frames + 1 ≤ R.frames ∧ 8 + (yn + 11) + rm.locals ≤ R.locals)
    (hK : va_K D classes tys s) (hP : va_P D classes ws H) (hD : va_D A ws) (hS : va_S A s.heap H locs) (hA : ∀ q : Nat, s.heap.size ≤ q → A q) (hF : SF g A s s.heap) (isC isT : List Nat) (hC : isC.map (fun i => ws[i]?) = wc.map some) (hnC : va_nd isC = true) (hT : isT.filterMap (fun i => tys[i]?) = tysc)
    (q0 ci : Nat) {fs : List Value} {r : vw_C} (hc : classes[ci]? = some r) (hcr : r.1 = y.cls) (he : ws[q0]? = some (a, .inr (ci, fs))) (hn : As.length = n) (hl : ls.size = nL) (hst : st0 = As.reverse ++ .ref a :: rest) (hcat : (rest.map fun v => v.category).sum ≤ 8) (hdg : decode cc pc = .ok (.invokevirtual index, 3)) (hf : cells ≤ R.cells ∧ slots ≤ R.slots) :
    va_Run p l e R s m args below meth c H locs cells slots 0 0 (F0 m pc ls st0) rest (Qc (va_A wc H.size) (Value.ref a :: As).toArray) (va_A wc H.size) := by
  obtain ⟨hp1, hp2⟩ := x_pre (As := .ref a :: As) (g := g) hK hP hD hS hA hF isC isT hC hnC hT
  have hrc := va_recv hK hP hc he
  rw [hcr] at hrc
  exact va_runV (C := y.cls) C (hM H.size) ⟨x_cb C hw hlink hrm, C.2.2.2.2 _ hv.1, C.2.2.2.2 _ hv.2⟩ ⟨hp1, hrc, hp2⟩ rfl hn hl hst (lv_room hcat) hdg hf
/-- a static method -/
theorem xS (C : CallFix p m c cc nL s args tb own) (hM : CT l D g y yb yn ret rm As wc tysc Qc) (hw : MW y yb yn ret n) (hv : MWS y) (hlink : Cond.methodLink own index y ∈ tb) (hrm : rm.cells = 0 ∧ rm.slots = 0 ∧ rm.frames + 1 ≤ R.frames ∧ 8 + (yn + 11) + rm.locals ≤ R.locals)
    (hK : va_K D classes tys s) (hP : va_P D classes ws H) (hD : va_D A ws) (hS : va_S A s.heap H locs) (hA : ∀ q : Nat, s.heap.size ≤ q → A q) (hF : SF g A s s.heap) (isC isT : List Nat) (hC : isC.map (fun i => ws[i]?) = wc.map some) (hnC : va_nd isC = true) (hT : isT.filterMap (fun i => tys[i]?) = tysc)
    (hn : As.length = n) (hl : ls.size = nL) (hst : st0 = As.reverse ++ rest) (hcat : (rest.map fun v => v.category).sum ≤ 8) (hdg : decode cc pc = .ok (.invokestatic index, 3)) (hf : cells ≤ R.cells ∧ slots ≤ R.slots) :
    va_Run p l e R s m args below meth c H locs cells slots 0 0 (F0 m pc ls st0) rest (Qc (va_A wc H.size) As.toArray) (va_A wc H.size) :=
  va_runS C (hM H.size) ⟨x_cb C hw hlink hrm, C.2.2.2.2 _ hv⟩ (x_pre (g := g) hK hP hD hS hA hF isC isT hC hnC hT) rfl hn hl hst (lv_room hcat) hdg hf
/-- behind a call: the world, in its old order -/
theorem x_post {S : Type} {W1 W2 : S → va_W} {u : S} {t : State} {H1 : Heap} (hP : va_P D classes ws H) (hD : va_D A ws) (hS : va_S A s.heap H locs) (hA : ∀ q : Nat, s.heap.size ≤ q → A q) (isC isR isO : List Nat) (hC : isC.map (fun i => ws[i]?) = wc.map some) (hR : isR.map (fun i => ws[i]?) = wr.map some) (hnR : va_nd isR = true) (hdis : ∀ i ∈ isR, i ∉ isC) (hO : ∀ u, isO.map (fun i => (wr ++ W1 u)[i]?) = (W2 u).map some) (hnO : va_nd isO = true)
    (ht : t.heap = H1) (hk : ∀ q : Nat, q < H.size → ¬ va_A wc H.size q → H1[q]? = H[q]?) (hB : BT D W1 (va_A wc H.size) u t) : va_P D classes (W2 u) H1 ∧ va_D A (W2 u) := by
  obtain ⟨hP1, hD1⟩ := hB
  rw [ht] at hP1
  obtain ⟨h1, h2⟩ := va_join (wr := wr) (w1 := W1 u) hP hD isC isR hC hR hnR hdis hk (va_free (wc := wc) hD hS hA isC hC) hP1 hD1
  refine ⟨?_, h2.sub isO hnO (hO u)⟩
  intro k q hq
  have h3 : (isO.map (fun i => (wr ++ W1 u)[i]?))[k]? = some (some q) := by rw [hO u, List.getElem?_map, hq]; rfl
  rw [List.getElem?_map] at h3
  cases hi : isO[k]? with
  | none => rw [hi] at h3; cases h3
  | some i => rw [hi] at h3; exact h1 i q (Option.some.inj h3)
theorem xi {S : Type} {post : Int32 → S → Prop} {W1 W2 : S → va_W} {av : Array Value} (hr : va_Run p l e R s m args below meth c H locs cells slots 0 0 (F0 m pc ls st0) rest (Qi D post W1 (va_A wc H.size) av) (va_A wc H.size))
    (hP : va_P D classes ws H) (hD : va_D A ws) (hS : va_S A s.heap H locs) (hA : ∀ q : Nat, s.heap.size ≤ q → A q) (isC isR isO : List Nat) (hC : isC.map (fun i => ws[i]?) = wc.map some) (hR : isR.map (fun i => ws[i]?) = wr.map some) (hnR : va_nd isR = true) (hdis : ∀ i ∈ isR, i ∉ isC) (hO : ∀ u, isO.map (fun i => (wr ++ W1 u)[i]?) = (W2 u).map some) (hnO : va_nd isO = true)
    (kk : ∀ (r : Int32) (u : S) (H1 : Heap) (locs1 : List Loc), post r u → va_P D classes (W2 u) H1 → va_D A (W2 u) → va_S A s.heap H1 locs1 → W p l e R s m args below meth c H1 locs1 cells slots Q (F0 m (pc + 3) ls (.int r :: rest))) : W p l e R s m args below meth c H locs cells slots Q (F0 m pc ls st0) := by
  have hf := va_free (wc := wc) hD hS hA isC hC
  refine va_calli hr hS (fun q _ h => hf q h) hf (fun r u t H1 locs1 ht hvm hw hB hz hk hS1 => ?_)
  obtain ⟨h1, h2⟩ := x_post (W2 := W2) hP hD hS hA isC isR isO hC hR hnR hdis hO hnO ht hk hB
  exact kk r u H1 locs1 hw h1 h2 hS1
theorem xl {S : Type} {post : Int64 → S → Prop} {W1 W2 : S → va_W} {av : Array Value} (hr : va_Run p l e R s m args below meth c H locs cells slots 0 0 (F0 m pc ls st0) rest (Ql D post W1 (va_A wc H.size) av) (va_A wc H.size))
    (hP : va_P D classes ws H) (hD : va_D A ws) (hS : va_S A s.heap H locs) (hA : ∀ q : Nat, s.heap.size ≤ q → A q) (isC isR isO : List Nat) (hC : isC.map (fun i => ws[i]?) = wc.map some) (hR : isR.map (fun i => ws[i]?) = wr.map some) (hnR : va_nd isR = true) (hdis : ∀ i ∈ isR, i ∉ isC) (hO : ∀ u, isO.map (fun i => (wr ++ W1 u)[i]?) = (W2 u).map some) (hnO : va_nd isO = true)
    (kk : ∀ (r : Int64) (u : S) (H1 : Heap) (locs1 : List Loc), post r u → va_P D classes (W2 u) H1 → va_D A (W2 u) → va_S A s.heap H1 locs1 → W p l e R s m args below meth c H1 locs1 cells slots Q (F0 m (pc + 3) ls (.long r :: rest))) : W p l e R s m args below meth c H locs cells slots Q (F0 m pc ls st0) := by
  have hf := va_free (wc := wc) hD hS hA isC hC
  refine va_calll hr hS (fun q _ h => hf q h) hf (fun r u t H1 locs1 ht hvm hw hB hz hk hS1 => ?_)
  obtain ⟨h1, h2⟩ := x_post (W2 := W2) hP hD hS hA isC isR isO hC hR hnR hdis hO hnO ht hk hB
  exact kk r u H1 locs1 hw h1 h2 hS1
theorem xv {S : Type} {post : S → Prop} {W1 W2 : S → va_W} {av : Array Value} (hr : va_Run p l e R s m args below meth c H locs cells slots 0 0 (F0 m pc ls st0) rest (Qv D post W1 (va_A wc H.size) av) (va_A wc H.size))
    (hP : va_P D classes ws H) (hD : va_D A ws) (hS : va_S A s.heap H locs) (hA : ∀ q : Nat, s.heap.size ≤ q → A q) (isC isR isO : List Nat) (hC : isC.map (fun i => ws[i]?) = wc.map some) (hR : isR.map (fun i => ws[i]?) = wr.map some) (hnR : va_nd isR = true) (hdis : ∀ i ∈ isR, i ∉ isC) (hO : ∀ u, isO.map (fun i => (wr ++ W1 u)[i]?) = (W2 u).map some) (hnO : va_nd isO = true)
    (kk : ∀ (u : S) (H1 : Heap) (locs1 : List Loc), post u → va_P D classes (W2 u) H1 → va_D A (W2 u) → va_S A s.heap H1 locs1 → W p l e R s m args below meth c H1 locs1 cells slots Q (F0 m (pc + 3) ls rest)) : W p l e R s m args below meth c H locs cells slots Q (F0 m pc ls st0) := by
  have hf := va_free (wc := wc) hD hS hA isC hC
  refine va_callv hr hS (fun q _ h => hf q h) hf (fun u t H1 locs1 ht hvm hw hB hz hk hS1 => ?_)
  obtain ⟨h1, h2⟩ := x_post (W2 := W2) hP hD hS hA isC isR isO hC hR hnR hdis hO hnO ht hk hB
  exact kk u H1 locs1 hw h1 h2 hS1
/-- ends -/
theorem ri {S : Type} {post : Int32 → S → Prop} {W1 : S → va_W} (u : S) {v : Int32} (hx : p.tables.exec = Jvm.exec) (hb : c.code = cc) (hr : meth.sig.returnType = some .int) (hlocks : meth.locks = false) (hP : va_P D classes (W1 u) H) (hD : va_D A (W1 u)) (hS : va_S A s.heap H locs) (hdg : decode cc pc = .ok (.ireturn, 1)) (hpost : post v u) : W p l e R s m args below meth c H locs 0 0 (MQ below (Qi D post W1 A) args s 0 0 A) (F0 m pc ls [.int v]) :=
  W.iret hx hb hr (fun t ht _ => ⟨⟨v, u, rfl, hpost, by rw [ht]; exact hP, hD⟩, hS.F ht⟩) hS.2.2 hdg hlocks
theorem rz {S : Type} {post : Int32 → S → Prop} {W1 : S → va_W} (u : S) {v : Int32} {ty : FieldType} (hx : p.tables.exec = Jvm.exec) (hb : c.code = cc) (hr : meth.sig.returnType = some ty) (hlocks : meth.locks = false) (hn : narrow ty (.int v) = .int v) (hP : va_P D classes (W1 u) H) (hD : va_D A (W1 u)) (hS : va_S A s.heap H locs) (hdg : decode cc pc = .ok (.ireturn, 1)) (hpost : post v u) : W p l e R s m args below meth c H locs 0 0 (MQ below (Qi D post W1 A) args s 0 0 A) (F0 m pc ls [.int v]) :=
  W.zret hx hb hr hn (fun t ht _ => ⟨⟨v, u, rfl, hpost, by rw [ht]; exact hP, hD⟩, hS.F ht⟩) hS.2.2 hdg hlocks
theorem rl {S : Type} {post : Int64 → S → Prop} {W1 : S → va_W} (u : S) {v : Int64} (hx : p.tables.exec = Jvm.exec) (hb : c.code = cc) (hr : meth.sig.returnType = some .long) (hlocks : meth.locks = false) (hP : va_P D classes (W1 u) H) (hD : va_D A (W1 u)) (hS : va_S A s.heap H locs) (hdg : decode cc pc = .ok (.lreturn, 1)) (hpost : post v u) : W p l e R s m args below meth c H locs 0 0 (MQ below (Ql D post W1 A) args s 0 0 A) (F0 m pc ls [.long v]) :=
  W.lret hx hb hr (fun t ht _ => ⟨⟨v, u, rfl, hpost, by rw [ht]; exact hP, hD⟩, hS.F ht⟩) hS.2.2 hdg hlocks
theorem rv {S : Type} {post : S → Prop} {W1 : S → va_W} (u : S) (hx : p.tables.exec = Jvm.exec) (hb : c.code = cc) (hr : meth.sig.returnType = none) (hlocks : meth.locks = false) (hP : va_P D classes (W1 u) H) (hD : va_D A (W1 u)) (hS : va_S A s.heap H locs) (hdg : decode cc pc = .ok (.return_, 1)) (hpost : post u) : W p l e R s m args below meth c H locs 0 0 (MQ below (Qv D post W1 A) args s 0 0 A) (F0 m pc ls []) :=
  W.vret hx hb hr (fun t ht _ => ⟨⟨u, rfl, hpost, by rw [ht]; exact hP, hD⟩, hS.F ht⟩) hS.2.2 hdg hlocks
end Base2
-- ===== rows of the kit with the new world named =====
def ush (x y : Int32) : Int32 := (x.toUInt32 >>> (y.toUInt32 &&& Int32.toUInt32 31)).toInt32
def lush (x : Int64) (y : Int32) : Int64 := (x.toUInt64 >>> (y.toInt64.toUInt64 &&& Int64.toUInt64 63)).toInt64
def lshl (x : Int64) (y : Int32) : Int64 := x <<< (y.toInt64 &&& 63)
def lshr (x : Int64) (y : Int32) : Int64 := x >>> (y.toInt64 &&& 63)
theorem nz {r : Int32} (h : r = 0 ∨ r = 1) : narrow .boolean (.int r) = .int r := by
  rcases h with rfl | rfl <;> rfl
section Rows2
variable {p : Program} {l : Launch} {e : Env} {R : Room} {s : State} {m : MethodId} {args : Array Value} {below : List Frame} {meth : Method} {c : Code} {H : Heap} {locs : List Loc} {cells slots : Nat} {Q : State → Prop}
variable {cc : ByteArray} {pc : Nat} {ls : Array Slot} {rest : List Value} {D : va_G} {cl : List vw_C} {A : Nat → Prop} {a : Nat} {tys : List (ClassId × FieldType)} {ws ws' : va_W} {H0 : Heap}
theorem y_put (hexec : p.tables.exec = Jvm.exec) (hb : c.code = cc) {own ref C : String} {T : u_T} {N ci index : Nat} {Ts : List Cond} (hts : ∀ w ∈ Ts, w.before args s = true) (hin : ∀ w ∈ u_ws C T N, w ∈ Ts) (ty0 : Nat → FieldType) (hty : ∀ k, k < N → parseFieldDescriptor (T k).2.2.1 = some (ty0 k)) (hnm : ∀ a, a < N → ∀ b, b < N → a ≠ b → (T a).2.1 ≠ (T b).2.1) (hown : s.vm.findClass own = some m.cls) (hK : va_K D cl tys s) (hP : va_P D cl ws H) (hD : va_D A ws) (hS0 : va_S A H0 H locs) (q0 : Nat) {fs : List Value} (he : ws[q0]? = some (a, .inr (ci, fs))) (hc : cl[ci]? = some (C, T, N)) (k : Nat) (hk : k < N) (hlink : (Cond.fieldLink own index ref (T k).2.1 (T k).2.2.1).before args s = true) (hsame : ∀ x, s.fieldFound? (T k).1 (T k).2.1 (T k).2.2.1 = some x → s.fieldFound? ref (T k).2.1 (T k).2.2.1 = some x) (hfin : (T k).2.2.2 = false) {ty : FieldType} {v : Value} (hd : parseFieldDescriptor (T k).2.2.1 = some ty) (hn : narrow ty v = v) (hfit : fits ty v = true) (hl : k < fs.length)
    (hdg : decode cc pc = .ok (.putfield index, 3)) (hw : ws.set q0 (a, .inr (ci, fs.set k v)) = ws') (kk : ∀ (H1 : Heap) (locs1 : List Loc), va_P D cl ws' H1 → va_D A ws' → va_S A H0 H1 locs1 → W p l e R s m args below meth c H1 locs1 cells slots Q (F0 m (pc + 3) ls rest)) : W p l e R s m args below meth c H locs cells slots Q (F0 m pc ls (v :: .ref a :: rest)) := by
  subst hw
  exact va_put hexec hb hts hin ty0 hty hnm hown hK hP hD hS0 q0 he hc k hk hlink hsame hfin hd hn hfit hl hdg kk
theorem y_putN (hexec : p.tables.exec = Jvm.exec) (hb : c.code = cc) {own ref C host : String} {T : u_T} {N ci index : Nat} {Ts : List Cond} (hts : ∀ w ∈ Ts, w.before args s = true) (hin : ∀ w ∈ u_ws C T N, w ∈ Ts) (ty0 : Nat → FieldType) (hty : ∀ k, k < N → parseFieldDescriptor (T k).2.2.1 = some (ty0 k)) (hnm : ∀ a, a < N → ∀ b, b < N → a ≠ b → (T a).2.1 ≠ (T b).2.1) (hown : s.vm.findClass own = some m.cls) (hK : va_K D cl tys s) (hP : va_P D cl ws H) (hD : va_D A ws) (hS0 : va_S A H0 H locs) (q0 : Nat) {fs : List Value} (he : ws[q0]? = some (a, .inr (ci, fs))) (hc : cl[ci]? = some (C, T, N)) (k : Nat) (hk : k < N) (hlink : (Cond.fieldLinkNest own index ref (T k).2.1 (T k).2.2.1 host).before args s = true) (hsame : ∀ x, s.fieldFound? (T k).1 (T k).2.1 (T k).2.2.1 = some x → s.fieldFound? ref (T k).2.1 (T k).2.2.1 = some x) (hfin : (T k).2.2.2 = false) {ty : FieldType} {v : Value} (hd : parseFieldDescriptor (T k).2.2.1 = some ty) (hn : narrow ty v = v) (hfit : fits ty v = true) (hl : k < fs.length)
    (hdg : decode cc pc = .ok (.putfield index, 3)) (hw : ws.set q0 (a, .inr (ci, fs.set k v)) = ws') (kk : ∀ (H1 : Heap) (locs1 : List Loc), va_P D cl ws' H1 → va_D A ws' → va_S A H0 H1 locs1 → W p l e R s m args below meth c H1 locs1 cells slots Q (F0 m (pc + 3) ls rest)) : W p l e R s m args below meth c H locs cells slots Q (F0 m pc ls (v :: .ref a :: rest)) := by
  subst hw
  exact va_putN hexec hb hts hin ty0 hty hnm hown hK hP hD hS0 q0 he hc k hk hlink hsame hfin hd hn hfit hl hdg kk
theorem y_iald (hexec : p.tables.exec = Jvm.exec) (hb : c.code = cc) (hK : va_K D cl tys s) (hP : va_P D cl ws H) (q0 t0 : Nat) {cA : ClassId} {n : Nat} {f : Nat → Int32} (ha : ws[q0]? = some (a, .inl (cA, n, .inl f))) (ht : tys[t0]? = some (cA, .int)) {i : Int32} (hin : vp_in i n) {v : Int32} (hv : f i.toNatClampNeg = v) (hdg : decode cc pc = .ok (.iaload, 1))
    (kk : W p l e R s m args below meth c H locs cells slots Q (F0 m (pc + 1) ls (.int v :: rest))) : W p l e R s m args below meth c H locs cells slots Q (F0 m pc ls (.int i :: .ref a :: rest)) := by
  subst hv
  exact va_iald hexec hb hK hP q0 t0 ha ht hin hdg kk
theorem y_bald (hexec : p.tables.exec = Jvm.exec) (hb : c.code = cc) (hK : va_K D cl tys s) (hP : va_P D cl ws H) (q0 t0 : Nat) {cA : ClassId} {n : Nat} {f : Nat → Int32} (ha : ws[q0]? = some (a, .inl (cA, n, .inl f))) (ht : tys[t0]? = some (cA, .byte)) {i : Int32} (hin : vp_in i n) {v : Int32} (hv : f i.toNatClampNeg = v) (hdg : decode cc pc = .ok (.baload, 1))
    (kk : W p l e R s m args below meth c H locs cells slots Q (F0 m (pc + 1) ls (.int v :: rest))) : W p l e R s m args below meth c H locs cells slots Q (F0 m pc ls (.int i :: .ref a :: rest)) := by
  subst hv
  exact va_bald hexec hb hK hP q0 t0 ha ht hin hdg kk
theorem y_lald (hexec : p.tables.exec = Jvm.exec) (hb : c.code = cc) (hK : va_K D cl tys s) (hP : va_P D cl ws H) (q0 t0 : Nat) {cA : ClassId} {n : Nat} {f : Nat → Int64} (ha : ws[q0]? = some (a, .inl (cA, n, .inr (.inl f)))) (ht : tys[t0]? = some (cA, .long)) {i : Int32} (hin : vp_in i n) {v : Int64} (hv : f i.toNatClampNeg = v) (hdg : decode cc pc = .ok (.laload, 1))
    (kk : W p l e R s m args below meth c H locs cells slots Q (F0 m (pc + 1) ls (.long v :: rest))) : W p l e R s m args below meth c H locs cells slots Q (F0 m pc ls (.int i :: .ref a :: rest)) := by
  subst hv
  exact va_lald hexec hb hK hP q0 t0 ha ht hin hdg kk
theorem y_iast (hexec : p.tables.exec = Jvm.exec) (hb : c.code = cc) (hK : va_K D cl tys s) (hP : va_P D cl ws H) (hD : va_D A ws) (hS : va_S A H0 H locs) (q0 t0 : Nat) {cA : ClassId} {n : Nat} {f : Nat → Int32} (ha : ws[q0]? = some (a, .inl (cA, n, .inl f))) (ht : tys[t0]? = some (cA, .int)) {i : Int32} {x : Int32} (hin : vp_in i n) (hdg : decode cc pc = .ok (.iastore, 1))
    (hw : ws.set q0 (a, .inl (cA, n, .inl (upd f i.toNatClampNeg x))) = ws')
    (kk : ∀ (H1 : Heap) (locs1 : List Loc), va_P D cl ws' H1 → va_D A ws' → va_S A H0 H1 locs1 → W p l e R s m args below meth c H1 locs1 cells slots Q (F0 m (pc + 1) ls rest)) : W p l e R s m args below meth c H locs cells slots Q (F0 m pc ls (.int x :: .int i :: .ref a :: rest)) := by
  subst hw
  exact va_iast hexec hb hK hP hD hS q0 t0 ha ht hin hdg kk
theorem y_bast (hexec : p.tables.exec = Jvm.exec) (hb : c.code = cc) (hK : va_K D cl tys s) (hP : va_P D cl ws H) (hD : va_D A ws) (hS : va_S A H0 H locs) (q0 t0 : Nat) {cA : ClassId} {n : Nat} {f : Nat → Int32} (ha : ws[q0]? = some (a, .inl (cA, n, .inl f))) (ht : tys[t0]? = some (cA, .byte)) {i : Int32} {x : Int32} (hin : vp_in i n) (hdg : decode cc pc = .ok (.bastore, 1))
    (hw : ws.set q0 (a, .inl (cA, n, .inl (upd f i.toNatClampNeg (vp_nar .byte x)))) = ws')
    (kk : ∀ (H1 : Heap) (locs1 : List Loc), va_P D cl ws' H1 → va_D A ws' → va_S A H0 H1 locs1 → W p l e R s m args below meth c H1 locs1 cells slots Q (F0 m (pc + 1) ls rest)) : W p l e R s m args below meth c H locs cells slots Q (F0 m pc ls (.int x :: .int i :: .ref a :: rest)) := by
  subst hw
  exact va_bast hexec hb hK hP hD hS q0 t0 ha ht hin hdg kk
theorem y_last (hexec : p.tables.exec = Jvm.exec) (hb : c.code = cc) (hK : va_K D cl tys s) (hP : va_P D cl ws H) (hD : va_D A ws) (hS : va_S A H0 H locs) (q0 t0 : Nat) {cA : ClassId} {n : Nat} {f : Nat → Int64} (ha : ws[q0]? = some (a, .inl (cA, n, .inr (.inl f)))) (ht : tys[t0]? = some (cA, .long)) {i : Int32} {x : Int64} (hin : vp_in i n) (hdg : decode cc pc = .ok (.lastore, 1))
    (hw : ws.set q0 (a, .inl (cA, n, .inr (.inl (vp_updL f i.toNatClampNeg x)))) = ws')
    (kk : ∀ (H1 : Heap) (locs1 : List Loc), va_P D cl ws' H1 → va_D A ws' → va_S A H0 H1 locs1 → W p l e R s m args below meth c H1 locs1 cells slots Q (F0 m (pc + 1) ls rest)) : W p l e R s m args below meth c H locs cells slots Q (F0 m pc ls (.long x :: .int i :: .ref a :: rest)) := by
  subst hw
  exact va_last hexec hb hK hP hD hS q0 t0 ha ht hin hdg kk
end Rows2
end
section
theorem k_0 : (.fieldLink R_Clint 9 "TwinHart$Clint" "words" "[I" : Cond) ∈ tb := tb_m 44 (by decide +kernel) rfl
theorem k_1 : (.fieldLink R_Memory 28 "TwinHart$Memory" "claims" "[J" : Cond) ∈ tb := tb_m 60 (by decide +kernel) rfl
theorem k_2 : (.constantLong R_Memory 26 (-1) : Cond) ∈ tb := tb_m 50 (by decide +kernel) rfl
theorem k_3 : (.fieldLink R_Memory 12 "TwinHart$Memory" "clint" "LTwinHart$Clint;" : Cond) ∈ tb := tb_m 53 (by decide +kernel) rfl
theorem k_4 : (.methodLink R_Memory 36 y_Clint_restart : Cond) ∈ tb := tb_m 181 (by decide +kernel) rfl
theorem k_5 : (.methodLink R_Memory 39 y_Memory_dropClaims : Cond) ∈ tb := tb_m 182 (by decide +kernel) rfl
theorem k_6 : (.fieldLink R_Csrs 15 "TwinHart$Csrs" "mstatus" "I" : Cond) ∈ tb := tb_m 89 (by decide +kernel) rfl
theorem k_7 : (.fieldLink R_Csrs 18 "TwinHart$Csrs" "medeleg" "I" : Cond) ∈ tb := tb_m 91 (by decide +kernel) rfl
theorem k_8 : (.fieldLink R_Csrs 21 "TwinHart$Csrs" "mideleg" "I" : Cond) ∈ tb := tb_m 92 (by decide +kernel) rfl
theorem k_9 : (.fieldLink R_Csrs 24 "TwinHart$Csrs" "mie" "I" : Cond) ∈ tb := tb_m 93 (by decide +kernel) rfl
theorem k_10 : (.fieldLink R_Csrs 27 "TwinHart$Csrs" "mtvec" "I" : Cond) ∈ tb := tb_m 94 (by decide +kernel) rfl
theorem k_11 : (.fieldLink R_Csrs 30 "TwinHart$Csrs" "mepc" "I" : Cond) ∈ tb := tb_m 95 (by decide +kernel) rfl
theorem k_12 : (.fieldLink R_Csrs 33 "TwinHart$Csrs" "mscratch" "I" : Cond) ∈ tb := tb_m 97 (by decide +kernel) rfl
theorem k_13 : (.fieldLink R_Csrs 36 "TwinHart$Csrs" "mcause" "I" : Cond) ∈ tb := tb_m 98 (by decide +kernel) rfl
theorem k_14 : (.fieldLink R_Csrs 39 "TwinHart$Csrs" "mtval" "I" : Cond) ∈ tb := tb_m 99 (by decide +kernel) rfl
theorem k_15 : (.fieldLink R_Csrs 42 "TwinHart$Csrs" "mip" "I" : Cond) ∈ tb := tb_m 100 (by decide +kernel) rfl
theorem k_16 : (.fieldLink R_Csrs 45 "TwinHart$Csrs" "stvec" "I" : Cond) ∈ tb := tb_m 101 (by decide +kernel) rfl
theorem k_17 : (.fieldLink R_Csrs 48 "TwinHart$Csrs" "sepc" "I" : Cond) ∈ tb := tb_m 102 (by decide +kernel) rfl
theorem k_18 : (.fieldLink R_Csrs 51 "TwinHart$Csrs" "sscratch" "I" : Cond) ∈ tb := tb_m 104 (by decide +kernel) rfl
theorem k_19 : (.fieldLink R_Csrs 54 "TwinHart$Csrs" "scause" "I" : Cond) ∈ tb := tb_m 105 (by decide +kernel) rfl
theorem k_20 : (.fieldLink R_Csrs 57 "TwinHart$Csrs" "stval" "I" : Cond) ∈ tb := tb_m 106 (by decide +kernel) rfl
theorem k_21 : (.fieldLink R_Csrs 60 "TwinHart$Csrs" "satp" "I" : Cond) ∈ tb := tb_m 107 (by decide +kernel) rfl
theorem k_22 : (.fieldLink R_Hart 9 "TwinHart$Hart" "x" "[I" : Cond) ∈ tb := tb_m 144 (by decide +kernel) rfl
theorem k_23 : (.fieldLink R_Hart 34 "TwinHart$Hart" "csrs" "LTwinHart$Csrs;" : Cond) ∈ tb := tb_m 146 (by decide +kernel) rfl
theorem k_24 : (.methodLink R_Hart 38 y_Csrs_restart : Cond) ∈ tb := tb_m 190 (by decide +kernel) rfl
theorem k_25 : (.constant R_Hart 15 (-2147483648) : Cond) ∈ tb := tb_m 81 (by decide +kernel) rfl
theorem k_26 : (.fieldLink R_Hart 16 "TwinHart$Hart" "pc" "I" : Cond) ∈ tb := tb_m 148 (by decide +kernel) rfl
theorem k_27 : (.fieldLink R_Hart 20 "TwinHart$Hart" "level" "I" : Cond) ∈ tb := tb_m 150 (by decide +kernel) rfl
theorem k_28 : (.fieldLink R_Memory 32 "TwinHart$Memory" "ram" "[I" : Cond) ∈ tb := tb_m 51 (by decide +kernel) rfl
theorem k_29 : (.constant R_Alu 9 (-2147483648) : Cond) ∈ tb := tb_m 228 (by decide +kernel) rfl
theorem k_30 : (.methodLink R_Clint 22 y_Alu_below : Cond) ∈ tb := tb_m 225 (by decide +kernel) rfl
theorem k_31 : (.methodLink R_Clint 18 y_Clint_isBelow : Cond) ∈ tb := tb_m 221 (by decide +kernel) rfl
theorem k_32 : (.fieldLink R_Csrs 96 "TwinHart$Csrs" "INTERRUPT_ORDER" "[I" : Cond) ∈ tb := tb_m 240 (by decide +kernel) rfl
theorem k_33 : (.methodLink R_Csrs 93 y_Csrs_firstOf : Cond) ∈ tb := tb_m 237 (by decide +kernel) rfl
theorem k_34 : (.methodLink R_Csrs 90 y_Csrs_has : Cond) ∈ tb := tb_m 233 (by decide +kernel) rfl
theorem k_35 : (.methodLink R_Hart 160 y_Csrs_enterMachine : Cond) ∈ tb := tb_m 254 (by decide +kernel) rfl
theorem k_36 : (.methodLink R_Hart 156 y_Csrs_enterSupervisor : Cond) ∈ tb := tb_m 250 (by decide +kernel) rfl
theorem k_37 : (.constantLong R_Fault 7 (-1) : Cond) ∈ tb := tb_m 267 (by decide +kernel) rfl
theorem k_38 : (.constant R_Csrs 106 131072 : Cond) ∈ tb := tb_m 272 (by decide +kernel) rfl
theorem k_39 : (.methodLink R_Csrs 101 y_Csrs_levelBefore : Cond) ∈ tb := tb_m 273 (by decide +kernel) rfl
theorem k_40 : (.constant R_Csrs 107 4194303 : Cond) ∈ tb := tb_m 289 (by decide +kernel) rfl
theorem k_41 : (.constantLong R_Pages 59 4 : Cond) ∈ tb := tb_m 293 (by decide +kernel) rfl
theorem k_42 : (.constantLong R_Memory 42 2147483648 : Cond) ∈ tb := tb_m 298 (by decide +kernel) rfl
theorem k_43 : (.constantLong R_Memory 44 4 : Cond) ∈ tb := tb_m 299 (by decide +kernel) rfl
theorem k_44 : (.methodLink R_Memory 65 y_Memory_indexOf : Cond) ∈ tb := tb_m 305 (by decide +kernel) rfl
theorem k_45 : (.fieldLink R_Pages 61 "TwinHart$Access" "FETCH" "LTwinHart$Access;" : Cond) ∈ tb := tb_m 314 (by decide +kernel) rfl
theorem k_46 : (.fieldLink R_Pages 66 "TwinHart$Access" "stores" "Z" : Cond) ∈ tb := tb_m 941 (by decide +kernel) rfl
theorem k_47 : (.constant R_Pages 70 524288 : Cond) ∈ tb := tb_m 316 (by decide +kernel) rfl
theorem k_48 : (.constant R_Pages 65 262144 : Cond) ∈ tb := tb_m 315 (by decide +kernel) rfl
theorem k_49 : (.methodLink R_Pages 11 y_Csrs_rootPage : Cond) ∈ tb := tb_m 285 (by decide +kernel) rfl
theorem k_50 : (.methodLink R_Pages 17 y_Pages_entryPlace : Cond) ∈ tb := tb_m 290 (by decide +kernel) rfl
theorem k_51 : (.methodLink R_Pages 21 y_Memory_isRam : Cond) ∈ tb := tb_m 294 (by decide +kernel) rfl
theorem k_52 : (.methodLink R_Pages 39 y_Memory_wordAt : Cond) ∈ tb := tb_m 301 (by decide +kernel) rfl
theorem k_53 : (.methodLink R_Pages 46 y_Pages_isPage : Cond) ∈ tb := tb_m 308 (by decide +kernel) rfl
theorem k_54 : (.fieldLink R_Pages 43 "TwinHart$Access" "pageFault" "I" : Cond) ∈ tb := tb_m 940 (by decide +kernel) rfl
theorem k_55 : (.methodLink R_Pages 33 y_Fault_of : Cond) ∈ tb := tb_m 300 (by decide +kernel) rfl
theorem k_56 : (.methodLink R_Pages 53 y_Pages_admits : Cond) ∈ tb := tb_m 311 (by decide +kernel) rfl
theorem k_57 : (.constantLong R_Pages 57 4294967295 : Cond) ∈ tb := tb_m 317 (by decide +kernel) rfl
theorem k_58 : (.fieldLink R_Pages 27 "TwinHart$Access" "accessFault" "I" : Cond) ∈ tb := tb_m 939 (by decide +kernel) rfl
theorem k_59 : (.constantLong R_Clint 27 33554432 : Cond) ∈ tb := tb_m 326 (by decide +kernel) rfl
theorem k_60 : (.constantLong R_Clint 31 33570816 : Cond) ∈ tb := tb_m 328 (by decide +kernel) rfl
theorem k_61 : (.constantLong R_Clint 35 33603576 : Cond) ∈ tb := tb_m 330 (by decide +kernel) rfl
theorem k_62 : (.constantLong R_Clint 37 33603584 : Cond) ∈ tb := tb_m 331 (by decide +kernel) rfl
theorem k_63 : (.constantLong R_Clint 33 33570832 : Cond) ∈ tb := tb_m 329 (by decide +kernel) rfl
theorem k_64 : (.constantLong R_Clint 29 33554440 : Cond) ∈ tb := tb_m 327 (by decide +kernel) rfl
theorem k_65 : (.methodLink R_Memory 46 y_Memory_isRam : Cond) ∈ tb := tb_m 322 (by decide +kernel) rfl
theorem k_66 : (.fieldLink R_Memory 50 "TwinHart$Access" "ramAlone" "Z" : Cond) ∈ tb := tb_m 942 (by decide +kernel) rfl
theorem k_67 : (.fieldLink R_Memory 60 "TwinHart$Access" "stores" "Z" : Cond) ∈ tb := tb_m 943 (by decide +kernel) rfl
theorem k_68 : (.constantLong R_Memory 63 268435456 : Cond) ∈ tb := tb_m 332 (by decide +kernel) rfl
theorem k_69 : (.methodLink R_Memory 56 y_Clint_slotAt : Cond) ∈ tb := tb_m 323 (by decide +kernel) rfl
theorem k_70 : (.fieldLink R_Hart 65 "TwinHart$Access" "FETCH" "LTwinHart$Access;" : Cond) ∈ tb := tb_m 258 (by decide +kernel) rfl
theorem k_71 : (.methodLink R_Hart 170 y_Csrs_dataLevel : Cond) ∈ tb := tb_m 268 (by decide +kernel) rfl
theorem k_72 : (.constantLong R_Hart 173 4294967295 : Cond) ∈ tb := tb_m 277 (by decide +kernel) rfl
theorem k_73 : (.methodLink R_Hart 185 y_Memory_allows : Cond) ∈ tb := tb_m 318 (by decide +kernel) rfl
theorem k_74 : (.fieldLink R_Hart 189 "TwinHart$Access" "accessFault" "I" : Cond) ∈ tb := tb_m 944 (by decide +kernel) rfl
theorem k_75 : (.methodLink R_Hart 166 y_Fault_of : Cond) ∈ tb := tb_m 264 (by decide +kernel) rfl
theorem k_76 : (.methodLink R_Hart 175 y_Csrs_hasPages : Cond) ∈ tb := tb_m 278 (by decide +kernel) rfl
theorem k_77 : (.methodLink R_Hart 179 y_Pages_placeOf : Cond) ∈ tb := tb_m 282 (by decide +kernel) rfl
theorem k_78 : (.fieldLink R_Hart 163 "TwinHart$Access" "misaligned" "I" : Cond) ∈ tb := tb_m 938 (by decide +kernel) rfl
theorem k_79 : (.fieldLink R_Hart 23 "TwinHart$Hart" "trapValue" "I" : Cond) ∈ tb := tb_m 152 (by decide +kernel) rfl
theorem k_80 : (.methodLink R_Hart 151 y_Fault_causeOf : Cond) ∈ tb := tb_m 337 (by decide +kernel) rfl
theorem k_81 : (.methodLink R_Hart 148 y_Hart_trap : Cond) ∈ tb := tb_m 340 (by decide +kernel) rfl
theorem k_82 : (.constantLong R_Memory 89 3 : Cond) ∈ tb := tb_m 375 (by decide +kernel) rfl
theorem k_83 : (.methodLink R_Memory 68 y_Memory_shiftOf : Cond) ∈ tb := tb_m 372 (by decide +kernel) rfl
theorem k_84 : (.methodLink R_Memory 71 y_Memory_maskOf : Cond) ∈ tb := tb_m 376 (by decide +kernel) rfl
theorem k_85 : (.methodLink R_Hart 141 y_Field_rd : Cond) ∈ tb := tb_m 383 (by decide +kernel) rfl
theorem k_86 : (.methodLink R_Hart 144 y_Hart_write : Cond) ∈ tb := tb_m 386 (by decide +kernel) rfl
theorem k_87 : (.methodLink R_Hart 93 y_Hart_goOn : Cond) ∈ tb := tb_m 390 (by decide +kernel) rfl
theorem k_88 : (.methodLink R_Hart 129 y_Field_f3 : Cond) ∈ tb := tb_m 353 (by decide +kernel) rfl
theorem k_89 : (.methodLink R_Hart 138 y_Hart_illegal : Cond) ∈ tb := tb_m 356 (by decide +kernel) rfl
theorem k_90 : (.methodLink R_Hart 192 y_Field_rs1 : Cond) ∈ tb := tb_m 360 (by decide +kernel) rfl
theorem k_91 : (.methodLink R_Hart 195 y_Field_immediate : Cond) ∈ tb := tb_m 363 (by decide +kernel) rfl
theorem k_92 : (.fieldLink R_Hart 210 "TwinHart$Access" "LOAD" "LTwinHart$Access;" : Cond) ∈ tb := tb_m 366 (by decide +kernel) rfl
theorem k_93 : (.methodLink R_Hart 71 y_Hart_locate : Cond) ∈ tb := tb_m 260 (by decide +kernel) rfl
theorem k_94 : (.methodLink R_Hart 213 y_Memory_load : Cond) ∈ tb := tb_m 368 (by decide +kernel) rfl
theorem k_95 : (.methodLink R_Hart 105 y_Hart_finish : Cond) ∈ tb := tb_m 379 (by decide +kernel) rfl
theorem k_96 : (.methodLink R_Hart 75 y_Hart_fault : Cond) ∈ tb := tb_m 333 (by decide +kernel) rfl
theorem k_97 : (.methodLink R_Alu 10 y_Alu_below : Cond) ∈ tb := tb_m 407 (by decide +kernel) rfl
theorem k_98 : (.methodLink R_Hart 224 y_Field_f7 : Cond) ∈ tb := tb_m 398 (by decide +kernel) rfl
theorem k_99 : (.methodLink R_Hart 227 y_Alu_plain : Cond) ∈ tb := tb_m 404 (by decide +kernel) rfl
theorem k_100 : (.methodLink R_Hart 198 y_Field_rs2 : Cond) ∈ tb := tb_m 401 (by decide +kernel) rfl
theorem k_101 : (.methodLink R_Field 7 y_Field_rd : Cond) ∈ tb := tb_m 418 (by decide +kernel) rfl
theorem k_102 : (.fieldLink R_Memory 22 "TwinHart$Memory" "printed" "I" : Cond) ∈ tb := tb_m 58 (by decide +kernel) rfl
theorem k_103 : (.fieldLink R_Memory 18 "TwinHart$Memory" "console" "[B" : Cond) ∈ tb := tb_m 56 (by decide +kernel) rfl
theorem k_104 : (.methodLink R_Clint 39 y_Clint_slotAt : Cond) ∈ tb := tb_m 433 (by decide +kernel) rfl
theorem k_105 : (.methodLink R_Memory 82 y_Clint_store : Cond) ∈ tb := tb_m 429 (by decide +kernel) rfl
theorem k_106 : (.methodLink R_Memory 78 y_Memory_print : Cond) ∈ tb := tb_m 425 (by decide +kernel) rfl
theorem k_107 : (.methodLink R_Hart 215 y_Field_storeOffset : Cond) ∈ tb := tb_m 415 (by decide +kernel) rfl
theorem k_108 : (.fieldLink R_Hart 218 "TwinHart$Access" "STORE" "LTwinHart$Access;" : Cond) ∈ tb := tb_m 419 (by decide +kernel) rfl
theorem k_109 : (.methodLink R_Hart 221 y_Memory_store : Cond) ∈ tb := tb_m 421 (by decide +kernel) rfl
theorem k_110 : (.methodLink R_Memory 86 y_Memory_store : Cond) ∈ tb := tb_m 449 (by decide +kernel) rfl
theorem k_111 : (.methodLink R_Alu 18 Lib.Math.min.name : Cond) ∈ tb := tb_m 457 (by decide +kernel) rfl
theorem k_112 : (.static Lib.Math.min.name : Cond) ∈ tb := tb_m 25 (by decide +kernel) rfl
theorem k_113 : (.initialized "java/lang/Math" : Cond) ∈ tb := tb_m 3 (by decide +kernel) rfl
theorem k_114 : (.code Lib.Math.min.name Lib.Math.min.code 2 (some .int) : Cond) ∈ tb := tb_m 26 (by decide +kernel) rfl
theorem k_115 : (.methodLink R_Alu 24 Lib.Math.max.name : Cond) ∈ tb := tb_m 458 (by decide +kernel) rfl
theorem k_116 : (.static Lib.Math.max.name : Cond) ∈ tb := tb_m 28 (by decide +kernel) rfl
theorem k_117 : (.code Lib.Math.max.name Lib.Math.max.code 2 (some .int) : Cond) ∈ tb := tb_m 29 (by decide +kernel) rfl
theorem k_118 : (.methodLink R_Hart 237 y_Hart_isChange : Cond) ∈ tb := tb_m 438 (by decide +kernel) rfl
theorem k_119 : (.fieldLink R_Hart 244 "TwinHart$Access" "CHANGE" "LTwinHart$Access;" : Cond) ∈ tb := tb_m 443 (by decide +kernel) rfl
theorem k_120 : (.methodLink R_Hart 255 y_Alu_changed : Cond) ∈ tb := tb_m 454 (by decide +kernel) rfl
theorem k_121 : (.fieldLink R_Hart 26 "TwinHart$Hart" "id" "I" : Cond) ∈ tb := tb_m 143 (by decide +kernel) rfl
theorem k_122 : (.methodLink R_Hart 247 y_Memory_storeIfClaimed : Cond) ∈ tb := tb_m 445 (by decide +kernel) rfl
theorem k_123 : (.fieldLink R_Hart 241 "TwinHart$Access" "CLAIM" "LTwinHart$Access;" : Cond) ∈ tb := tb_m 441 (by decide +kernel) rfl
theorem k_124 : (.methodLink R_Hart 251 y_Memory_claim : Cond) ∈ tb := tb_m 450 (by decide +kernel) rfl
theorem k_125 : (.constantLong R_Alu 16 4294967295 : Cond) ∈ tb := tb_m 466 (by decide +kernel) rfl
theorem k_126 : (.methodLink R_Hart 234 y_Alu_divided : Cond) ∈ tb := tb_m 467 (by decide +kernel) rfl
theorem k_127 : (.methodLink R_Hart 231 y_Alu_multiplied : Cond) ∈ tb := tb_m 463 (by decide +kernel) rfl
theorem k_128 : (.methodLink R_Hart 201 y_Alu_branches : Cond) ∈ tb := tb_m 474 (by decide +kernel) rfl
theorem k_129 : (.methodLink R_Hart 207 y_Field_branchOffset : Cond) ∈ tb := tb_m 477 (by decide +kernel) rfl
theorem k_130 : (.methodLink R_Hart 126 y_Hart_jump : Cond) ∈ tb := tb_m 484 (by decide +kernel) rfl
theorem k_131 : (.constant R_Field 13 1044480 : Cond) ∈ tb := tb_m 491 (by decide +kernel) rfl
theorem k_132 : (.constant R_Csrs 105 137224 : Cond) ∈ tb := tb_m 504 (by decide +kernel) rfl
theorem k_133 : (.methodLink R_Hart 264 y_Csrs_leaveMachine : Cond) ∈ tb := tb_m 500 (by decide +kernel) rfl
theorem k_134 : (.constant R_Csrs 100 (-131331) : Cond) ∈ tb := tb_m 513 (by decide +kernel) rfl
theorem k_135 : (.methodLink R_Hart 270 y_Csrs_leaveSupervisor : Cond) ∈ tb := tb_m 509 (by decide +kernel) rfl
theorem k_136 : (.methodLink R_Hart 261 y_Hart_returnFromSupervisor : Cond) ∈ tb := tb_m 505 (by decide +kernel) rfl
theorem k_137 : (.methodLink R_Hart 258 y_Hart_returnFromMachine : Cond) ∈ tb := tb_m 496 (by decide +kernel) rfl
theorem k_138 : (.methodLink R_Csrs 63 y_Csrs_isTold : Cond) ∈ tb := tb_m 521 (by decide +kernel) rfl
theorem k_139 : (.methodLink R_Csrs 67 y_Csrs_isReadOnly : Cond) ∈ tb := tb_m 524 (by decide +kernel) rfl
theorem k_140 : (.constant R_Csrs 70 786722 : Cond) ∈ tb := tb_m 531 (by decide +kernel) rfl
theorem k_141 : (.constant R_Csrs 71 1075056897 : Cond) ∈ tb := tb_m 532 (by decide +kernel) rfl
theorem k_142 : (.fieldLink R_Csrs 11 "TwinHart$Csrs" "hart" "I" : Cond) ∈ tb := tb_m 88 (by decide +kernel) rfl
theorem k_143 : (.methodLink R_Csrs 79 y_Csrs_merged : Cond) ∈ tb := tb_m 544 (by decide +kernel) rfl
theorem k_144 : (.constant R_Csrs 83 (-2143289345) : Cond) ∈ tb := tb_m 547 (by decide +kernel) rfl
theorem k_145 : (.constant R_Csrs 84 924074 : Cond) ∈ tb := tb_m 552 (by decide +kernel) rfl
theorem k_146 : (.methodLink R_Csrs 85 y_Csrs_withoutLevelTwo : Cond) ∈ tb := tb_m 553 (by decide +kernel) rfl
theorem k_147 : (.constant R_Csrs 89 46079 : Cond) ∈ tb := tb_m 556 (by decide +kernel) rfl
theorem k_148 : (.methodLink R_Csrs 76 y_Csrs_writeMachine : Cond) ∈ tb := tb_m 548 (by decide +kernel) rfl
theorem k_149 : (.methodLink R_Csrs 72 y_Csrs_writeSupervisor : Cond) ∈ tb := tb_m 540 (by decide +kernel) rfl
theorem k_150 : (.methodLink R_Hart 276 y_Csrs_isAllowed : Cond) ∈ tb := tb_m 518 (by decide +kernel) rfl
theorem k_151 : (.fieldLink R_Hart 41 "TwinHart$Memory" "clint" "LTwinHart$Clint;" : Cond) ∈ tb := tb_m 54 (by decide +kernel) rfl
theorem k_152 : (.methodLink R_Hart 47 y_Clint_lines : Cond) ∈ tb := tb_m 217 (by decide +kernel) rfl
theorem k_153 : (.methodLink R_Hart 280 y_Csrs_read : Cond) ∈ tb := tb_m 527 (by decide +kernel) rfl
theorem k_154 : (.methodLink R_Hart 283 y_Hart_mixed : Cond) ∈ tb := tb_m 533 (by decide +kernel) rfl
theorem k_155 : (.methodLink R_Hart 286 y_Csrs_write : Cond) ∈ tb := tb_m 536 (by decide +kernel) rfl
theorem k_156 : (.methodLink R_Hart 90 y_Hart_load : Cond) ∈ tb := tb_m 349 (by decide +kernel) rfl
theorem k_157 : (.methodLink R_Hart 97 y_Hart_computeWithImmediate : Cond) ∈ tb := tb_m 394 (by decide +kernel) rfl
theorem k_158 : (.methodLink R_Hart 100 y_Field_upper : Cond) ∈ tb := tb_m 408 (by decide +kernel) rfl
theorem k_159 : (.methodLink R_Hart 108 y_Hart_store : Cond) ∈ tb := tb_m 411 (by decide +kernel) rfl
theorem k_160 : (.methodLink R_Hart 111 y_Hart_changeAtOnce : Cond) ∈ tb := tb_m 434 (by decide +kernel) rfl
theorem k_161 : (.methodLink R_Hart 114 y_Hart_compute : Cond) ∈ tb := tb_m 459 (by decide +kernel) rfl
theorem k_162 : (.methodLink R_Hart 117 y_Hart_branch : Cond) ∈ tb := tb_m 470 (by decide +kernel) rfl
theorem k_163 : (.methodLink R_Hart 120 y_Hart_jumpByRegister : Cond) ∈ tb := tb_m 480 (by decide +kernel) rfl
theorem k_164 : (.methodLink R_Hart 123 y_Field_jumpOffset : Cond) ∈ tb := tb_m 488 (by decide +kernel) rfl
theorem k_165 : (.methodLink R_Hart 135 y_Hart_exchange : Cond) ∈ tb := tb_m 514 (by decide +kernel) rfl
theorem k_166 : (.methodLink R_Hart 132 y_Hart_callSystem : Cond) ∈ tb := tb_m 492 (by decide +kernel) rfl
theorem k_167 : (.methodLink R_Hart 53 y_Csrs_dueInterrupt : Cond) ∈ tb := tb_m 229 (by decide +kernel) rfl
theorem k_168 : (.methodLink R_Hart 79 y_Memory_wordAt : Cond) ∈ tb := tb_m 344 (by decide +kernel) rfl
theorem k_169 : (.methodLink R_Hart 83 y_Hart_execute : Cond) ∈ tb := tb_m 345 (by decide +kernel) rfl
theorem k_170 : (.methodLink R_Hart 61 y_Hart_take : Cond) ∈ tb := tb_m 246 (by decide +kernel) rfl
theorem k_171 : (.methodLink R_Hart 87 y_Csrs_handsDownTrap : Cond) ∈ tb := tb_m 557 (by decide +kernel) rfl
theorem k_172 : (.methodLink R_Hart 57 y_Csrs_handsDownInterrupt : Cond) ∈ tb := tb_m 242 (by decide +kernel) rfl
theorem kn_0 : (.fieldLinkNest R_Pages 50 "TwinHart$Csrs" "mstatus" "I" "TwinHart" : Cond) ∈ lw_tbl := List.mem_append_right _ (List.mem_of_getElem? (i := 90) (by decide +kernel))
theorem kn_1 : (.fieldLinkNest R_Memory 75 "TwinHart$Clint" "words" "[I" "TwinHart" : Cond) ∈ lw_tbl := List.mem_append_right _ (List.mem_of_getElem? (i := 45) (by decide +kernel))
theorem kn_2 : (.fieldLinkNest R_Hart 267 "TwinHart$Csrs" "mepc" "I" "TwinHart" : Cond) ∈ lw_tbl := List.mem_append_right _ (List.mem_of_getElem? (i := 96) (by decide +kernel))
theorem kn_3 : (.fieldLinkNest R_Hart 273 "TwinHart$Csrs" "sepc" "I" "TwinHart" : Cond) ∈ lw_tbl := List.mem_append_right _ (List.mem_of_getElem? (i := 103) (by decide +kernel))
theorem mw_Clint_restart : MW y_Clint_restart b_Clint_restart 2 none 0 := ⟨tb_m 43 (by decide +kernel) rfl, tb_m 4 (by decide +kernel) rfl, by decide +kernel, by decide +kernel, by decide +kernel⟩
theorem mv_Clint_restart : MWV y_Clint_restart := ⟨tb_m 41 (by decide +kernel) rfl, tb_m 42 (by decide +kernel) rfl⟩
theorem mw_Memory_dropClaims : MW y_Memory_dropClaims b_Memory_dropClaims 1 none 0 := ⟨tb_m 185 (by decide +kernel) rfl, tb_m 2 (by decide +kernel) rfl, by decide +kernel, by decide +kernel, by decide +kernel⟩
theorem mv_Memory_dropClaims : MWV y_Memory_dropClaims := ⟨tb_m 183 (by decide +kernel) rfl, tb_m 184 (by decide +kernel) rfl⟩
theorem mw_Memory_restart : MW y_Memory_restart b_Memory_restart 1 none 0 := ⟨tb_m 180 (by decide +kernel) rfl, tb_m 2 (by decide +kernel) rfl, by decide +kernel, by decide +kernel, by decide +kernel⟩
theorem mv_Memory_restart : MWV y_Memory_restart := ⟨tb_m 178 (by decide +kernel) rfl, tb_m 179 (by decide +kernel) rfl⟩
theorem mw_Csrs_restart : MW y_Csrs_restart b_Csrs_restart 1 none 0 := ⟨tb_m 193 (by decide +kernel) rfl, tb_m 6 (by decide +kernel) rfl, by decide +kernel, by decide +kernel, by decide +kernel⟩
theorem mv_Csrs_restart : MWV y_Csrs_restart := ⟨tb_m 191 (by decide +kernel) rfl, tb_m 192 (by decide +kernel) rfl⟩
theorem mw_Hart_restart : MW y_Hart_restart b_Hart_restart 2 none 0 := ⟨tb_m 189 (by decide +kernel) rfl, tb_m 5 (by decide +kernel) rfl, by decide +kernel, by decide +kernel, by decide +kernel⟩
theorem mv_Hart_restart : MWV y_Hart_restart := ⟨tb_m 187 (by decide +kernel) rfl, tb_m 188 (by decide +kernel) rfl⟩
theorem mw_Memory_hasWord : MW y_Memory_hasWord b_Memory_hasWord 2 (some .boolean) 1 := ⟨tb_m 201 (by decide +kernel) rfl, tb_m 2 (by decide +kernel) rfl, by decide +kernel, by decide +kernel, by decide +kernel⟩
theorem mv_Memory_hasWord : MWV y_Memory_hasWord := ⟨tb_m 199 (by decide +kernel) rfl, tb_m 200 (by decide +kernel) rfl⟩
theorem mw_Alu_below : MW y_Alu_below b_Alu_below 2 (some .boolean) 2 := ⟨tb_m 227 (by decide +kernel) rfl, tb_m 8 (by decide +kernel) rfl, by decide +kernel, by decide +kernel, by decide +kernel⟩
theorem ms_Alu_below : MWS y_Alu_below := tb_m 226 (by decide +kernel) rfl
theorem mw_Clint_isBelow : MW y_Clint_isBelow b_Clint_isBelow 3 (some .boolean) 2 := ⟨tb_m 224 (by decide +kernel) rfl, tb_m 4 (by decide +kernel) rfl, by decide +kernel, by decide +kernel, by decide +kernel⟩
theorem mv_Clint_isBelow : MWV y_Clint_isBelow := ⟨tb_m 223 (by decide +kernel) rfl, tb_p 0 (by decide +kernel) rfl⟩
theorem mw_Clint_lines : MW y_Clint_lines b_Clint_lines 4 (some .int) 1 := ⟨tb_m 220 (by decide +kernel) rfl, tb_m 4 (by decide +kernel) rfl, by decide +kernel, by decide +kernel, by decide +kernel⟩
theorem mv_Clint_lines : MWV y_Clint_lines := ⟨tb_m 218 (by decide +kernel) rfl, tb_m 219 (by decide +kernel) rfl⟩
theorem mw_Csrs_has : MW y_Csrs_has b_Csrs_has 2 (some .boolean) 1 := ⟨tb_m 236 (by decide +kernel) rfl, tb_m 6 (by decide +kernel) rfl, by decide +kernel, by decide +kernel, by decide +kernel⟩
theorem mv_Csrs_has : MWV y_Csrs_has := ⟨tb_m 235 (by decide +kernel) rfl, tb_p 1 (by decide +kernel) rfl⟩
theorem mw_Csrs_firstOf : MW y_Csrs_firstOf b_Csrs_firstOf 2 (some .int) 1 := ⟨tb_m 239 (by decide +kernel) rfl, tb_m 6 (by decide +kernel) rfl, by decide +kernel, by decide +kernel, by decide +kernel⟩
theorem ms_Csrs_firstOf : MWS y_Csrs_firstOf := tb_m 238 (by decide +kernel) rfl
theorem mw_Csrs_dueInterrupt : MW y_Csrs_dueInterrupt b_Csrs_dueInterrupt 6 (some .int) 2 := ⟨tb_m 232 (by decide +kernel) rfl, tb_m 6 (by decide +kernel) rfl, by decide +kernel, by decide +kernel, by decide +kernel⟩
theorem mv_Csrs_dueInterrupt : MWV y_Csrs_dueInterrupt := ⟨tb_m 230 (by decide +kernel) rfl, tb_m 231 (by decide +kernel) rfl⟩
theorem mw_Csrs_handsDownInterrupt : MW y_Csrs_handsDownInterrupt b_Csrs_handsDownInterrupt 2 (some .boolean) 1 := ⟨tb_m 245 (by decide +kernel) rfl, tb_m 6 (by decide +kernel) rfl, by decide +kernel, by decide +kernel, by decide +kernel⟩
theorem mv_Csrs_handsDownInterrupt : MWV y_Csrs_handsDownInterrupt := ⟨tb_m 243 (by decide +kernel) rfl, tb_m 244 (by decide +kernel) rfl⟩
theorem mw_Csrs_enterSupervisor : MW y_Csrs_enterSupervisor b_Csrs_enterSupervisor 7 (some .int) 4 := ⟨tb_m 253 (by decide +kernel) rfl, tb_m 6 (by decide +kernel) rfl, by decide +kernel, by decide +kernel, by decide +kernel⟩
theorem mv_Csrs_enterSupervisor : MWV y_Csrs_enterSupervisor := ⟨tb_m 251 (by decide +kernel) rfl, tb_m 252 (by decide +kernel) rfl⟩
theorem mw_Csrs_enterMachine : MW y_Csrs_enterMachine b_Csrs_enterMachine 6 (some .int) 4 := ⟨tb_m 257 (by decide +kernel) rfl, tb_m 6 (by decide +kernel) rfl, by decide +kernel, by decide +kernel, by decide +kernel⟩
theorem mv_Csrs_enterMachine : MWV y_Csrs_enterMachine := ⟨tb_m 255 (by decide +kernel) rfl, tb_m 256 (by decide +kernel) rfl⟩
theorem mw_Hart_take : MW y_Hart_take b_Hart_take 4 none 3 := ⟨tb_m 249 (by decide +kernel) rfl, tb_m 5 (by decide +kernel) rfl, by decide +kernel, by decide +kernel, by decide +kernel⟩
theorem mv_Hart_take : MWV y_Hart_take := ⟨tb_m 248 (by decide +kernel) rfl, tb_p 2 (by decide +kernel) rfl⟩
theorem mw_Fault_of : MW y_Fault_of b_Fault_of 1 (some .long) 1 := ⟨tb_m 266 (by decide +kernel) rfl, tb_m 11 (by decide +kernel) rfl, by decide +kernel, by decide +kernel, by decide +kernel⟩
theorem ms_Fault_of : MWS y_Fault_of := tb_m 265 (by decide +kernel) rfl
theorem mw_Csrs_levelBefore : MW y_Csrs_levelBefore b_Csrs_levelBefore 1 (some .int) 0 := ⟨tb_m 276 (by decide +kernel) rfl, tb_m 6 (by decide +kernel) rfl, by decide +kernel, by decide +kernel, by decide +kernel⟩
theorem mv_Csrs_levelBefore : MWV y_Csrs_levelBefore := ⟨tb_m 275 (by decide +kernel) rfl, tb_p 4 (by decide +kernel) rfl⟩
theorem mw_Csrs_dataLevel : MW y_Csrs_dataLevel b_Csrs_dataLevel 2 (some .int) 1 := ⟨tb_m 271 (by decide +kernel) rfl, tb_m 6 (by decide +kernel) rfl, by decide +kernel, by decide +kernel, by decide +kernel⟩
theorem mv_Csrs_dataLevel : MWV y_Csrs_dataLevel := ⟨tb_m 269 (by decide +kernel) rfl, tb_m 270 (by decide +kernel) rfl⟩
theorem mw_Csrs_hasPages : MW y_Csrs_hasPages b_Csrs_hasPages 1 (some .boolean) 0 := ⟨tb_m 281 (by decide +kernel) rfl, tb_m 6 (by decide +kernel) rfl, by decide +kernel, by decide +kernel, by decide +kernel⟩
theorem mv_Csrs_hasPages : MWV y_Csrs_hasPages := ⟨tb_m 279 (by decide +kernel) rfl, tb_m 280 (by decide +kernel) rfl⟩
theorem mw_Csrs_rootPage : MW y_Csrs_rootPage b_Csrs_rootPage 1 (some .int) 0 := ⟨tb_m 288 (by decide +kernel) rfl, tb_m 6 (by decide +kernel) rfl, by decide +kernel, by decide +kernel, by decide +kernel⟩
theorem mv_Csrs_rootPage : MWV y_Csrs_rootPage := ⟨tb_m 286 (by decide +kernel) rfl, tb_m 287 (by decide +kernel) rfl⟩
theorem mw_Pages_entryPlace : MW y_Pages_entryPlace b_Pages_entryPlace 2 (some .long) 2 := ⟨tb_m 292 (by decide +kernel) rfl, tb_m 12 (by decide +kernel) rfl, by decide +kernel, by decide +kernel, by decide +kernel⟩
theorem ms_Pages_entryPlace : MWS y_Pages_entryPlace := tb_m 291 (by decide +kernel) rfl
theorem mw_Memory_isRam : MW y_Memory_isRam b_Memory_isRam 3 (some .boolean) 1 := ⟨tb_m 297 (by decide +kernel) rfl, tb_m 2 (by decide +kernel) rfl, by decide +kernel, by decide +kernel, by decide +kernel⟩
theorem mv_Memory_isRam : MWV y_Memory_isRam := ⟨tb_m 295 (by decide +kernel) rfl, tb_m 296 (by decide +kernel) rfl⟩
theorem mw_Memory_indexOf : MW y_Memory_indexOf b_Memory_indexOf 2 (some .int) 1 := ⟨tb_m 307 (by decide +kernel) rfl, tb_m 2 (by decide +kernel) rfl, by decide +kernel, by decide +kernel, by decide +kernel⟩
theorem ms_Memory_indexOf : MWS y_Memory_indexOf := tb_m 306 (by decide +kernel) rfl
theorem mw_Memory_wordAt : MW y_Memory_wordAt b_Memory_wordAt 3 (some .int) 1 := ⟨tb_m 304 (by decide +kernel) rfl, tb_m 2 (by decide +kernel) rfl, by decide +kernel, by decide +kernel, by decide +kernel⟩
theorem mv_Memory_wordAt : MWV y_Memory_wordAt := ⟨tb_m 302 (by decide +kernel) rfl, tb_m 303 (by decide +kernel) rfl⟩
theorem mw_Pages_isPage : MW y_Pages_isPage b_Pages_isPage 2 (some .boolean) 1 := ⟨tb_m 310 (by decide +kernel) rfl, tb_m 12 (by decide +kernel) rfl, by decide +kernel, by decide +kernel, by decide +kernel⟩
theorem ms_Pages_isPage : MWS y_Pages_isPage := tb_m 309 (by decide +kernel) rfl
theorem mw_Pages_admits : MW y_Pages_admits b_Pages_admits 8 (some .boolean) 4 := ⟨tb_m 313 (by decide +kernel) rfl, tb_m 12 (by decide +kernel) rfl, by decide +kernel, by decide +kernel, by decide +kernel⟩
theorem ms_Pages_admits : MWS y_Pages_admits := tb_m 312 (by decide +kernel) rfl
theorem mw_Pages_placeOf : MW y_Pages_placeOf b_Pages_placeOf 12 (some .long) 5 := ⟨tb_m 284 (by decide +kernel) rfl, tb_m 12 (by decide +kernel) rfl, by decide +kernel, by decide +kernel, by decide +kernel⟩
theorem ms_Pages_placeOf : MWS y_Pages_placeOf := tb_m 283 (by decide +kernel) rfl
theorem mw_Clint_slotAt : MW y_Clint_slotAt b_Clint_slotAt 2 (some .int) 1 := ⟨tb_m 325 (by decide +kernel) rfl, tb_m 4 (by decide +kernel) rfl, by decide +kernel, by decide +kernel, by decide +kernel⟩
theorem ms_Clint_slotAt : MWS y_Clint_slotAt := tb_m 324 (by decide +kernel) rfl
theorem mw_Memory_allows : MW y_Memory_allows b_Memory_allows 5 (some .boolean) 3 := ⟨tb_m 321 (by decide +kernel) rfl, tb_m 2 (by decide +kernel) rfl, by decide +kernel, by decide +kernel, by decide +kernel⟩
theorem mv_Memory_allows : MWV y_Memory_allows := ⟨tb_m 319 (by decide +kernel) rfl, tb_m 320 (by decide +kernel) rfl⟩
theorem mw_Hart_locate : MW y_Hart_locate b_Hart_locate 8 (some .long) 4 := ⟨tb_m 263 (by decide +kernel) rfl, tb_m 5 (by decide +kernel) rfl, by decide +kernel, by decide +kernel, by decide +kernel⟩
theorem mv_Hart_locate : MWV y_Hart_locate := ⟨tb_m 262 (by decide +kernel) rfl, tb_p 3 (by decide +kernel) rfl⟩
theorem mw_Fault_causeOf : MW y_Fault_causeOf b_Fault_causeOf 2 (some .int) 1 := ⟨tb_m 339 (by decide +kernel) rfl, tb_m 11 (by decide +kernel) rfl, by decide +kernel, by decide +kernel, by decide +kernel⟩
theorem ms_Fault_causeOf : MWS y_Fault_causeOf := tb_m 338 (by decide +kernel) rfl
theorem mw_Hart_trap : MW y_Hart_trap b_Hart_trap 3 (some .int) 2 := ⟨tb_m 343 (by decide +kernel) rfl, tb_m 5 (by decide +kernel) rfl, by decide +kernel, by decide +kernel, by decide +kernel⟩
theorem mv_Hart_trap : MWV y_Hart_trap := ⟨tb_m 342 (by decide +kernel) rfl, tb_p 6 (by decide +kernel) rfl⟩
theorem mw_Hart_fault : MW y_Hart_fault b_Hart_fault 4 (some .int) 2 := ⟨tb_m 336 (by decide +kernel) rfl, tb_m 5 (by decide +kernel) rfl, by decide +kernel, by decide +kernel, by decide +kernel⟩
theorem mv_Hart_fault : MWV y_Hart_fault := ⟨tb_m 335 (by decide +kernel) rfl, tb_p 5 (by decide +kernel) rfl⟩
theorem mw_Field_f3 : MW y_Field_f3 b_Field_f3 1 (some .int) 1 := ⟨tb_m 355 (by decide +kernel) rfl, tb_m 13 (by decide +kernel) rfl, by decide +kernel, by decide +kernel, by decide +kernel⟩
theorem ms_Field_f3 : MWS y_Field_f3 := tb_m 354 (by decide +kernel) rfl
theorem mw_Hart_illegal : MW y_Hart_illegal b_Hart_illegal 2 (some .int) 1 := ⟨tb_m 359 (by decide +kernel) rfl, tb_m 5 (by decide +kernel) rfl, by decide +kernel, by decide +kernel, by decide +kernel⟩
theorem mv_Hart_illegal : MWV y_Hart_illegal := ⟨tb_m 358 (by decide +kernel) rfl, tb_p 9 (by decide +kernel) rfl⟩
theorem mw_Field_rs1 : MW y_Field_rs1 b_Field_rs1 1 (some .int) 1 := ⟨tb_m 362 (by decide +kernel) rfl, tb_m 13 (by decide +kernel) rfl, by decide +kernel, by decide +kernel, by decide +kernel⟩
theorem ms_Field_rs1 : MWS y_Field_rs1 := tb_m 361 (by decide +kernel) rfl
theorem mw_Field_immediate : MW y_Field_immediate b_Field_immediate 1 (some .int) 1 := ⟨tb_m 365 (by decide +kernel) rfl, tb_m 13 (by decide +kernel) rfl, by decide +kernel, by decide +kernel, by decide +kernel⟩
theorem ms_Field_immediate : MWS y_Field_immediate := tb_m 364 (by decide +kernel) rfl
theorem mw_Memory_shiftOf : MW y_Memory_shiftOf b_Memory_shiftOf 2 (some .int) 1 := ⟨tb_m 374 (by decide +kernel) rfl, tb_m 2 (by decide +kernel) rfl, by decide +kernel, by decide +kernel, by decide +kernel⟩
theorem ms_Memory_shiftOf : MWS y_Memory_shiftOf := tb_m 373 (by decide +kernel) rfl
theorem mw_Memory_maskOf : MW y_Memory_maskOf b_Memory_maskOf 1 (some .int) 1 := ⟨tb_m 378 (by decide +kernel) rfl, tb_m 2 (by decide +kernel) rfl, by decide +kernel, by decide +kernel, by decide +kernel⟩
theorem ms_Memory_maskOf : MWS y_Memory_maskOf := tb_m 377 (by decide +kernel) rfl
theorem mw_Memory_load : MW y_Memory_load b_Memory_load 5 (some .int) 2 := ⟨tb_m 371 (by decide +kernel) rfl, tb_m 2 (by decide +kernel) rfl, by decide +kernel, by decide +kernel, by decide +kernel⟩
theorem mv_Memory_load : MWV y_Memory_load := ⟨tb_m 369 (by decide +kernel) rfl, tb_m 370 (by decide +kernel) rfl⟩
theorem mw_Field_rd : MW y_Field_rd b_Field_rd 1 (some .int) 1 := ⟨tb_m 385 (by decide +kernel) rfl, tb_m 13 (by decide +kernel) rfl, by decide +kernel, by decide +kernel, by decide +kernel⟩
theorem ms_Field_rd : MWS y_Field_rd := tb_m 384 (by decide +kernel) rfl
theorem mw_Hart_write : MW y_Hart_write b_Hart_write 3 none 2 := ⟨tb_m 389 (by decide +kernel) rfl, tb_m 5 (by decide +kernel) rfl, by decide +kernel, by decide +kernel, by decide +kernel⟩
theorem mv_Hart_write : MWV y_Hart_write := ⟨tb_m 388 (by decide +kernel) rfl, tb_p 11 (by decide +kernel) rfl⟩
theorem mw_Hart_goOn : MW y_Hart_goOn b_Hart_goOn 1 (some .int) 0 := ⟨tb_m 393 (by decide +kernel) rfl, tb_m 5 (by decide +kernel) rfl, by decide +kernel, by decide +kernel, by decide +kernel⟩
theorem mv_Hart_goOn : MWV y_Hart_goOn := ⟨tb_m 392 (by decide +kernel) rfl, tb_p 12 (by decide +kernel) rfl⟩
theorem mw_Hart_finish : MW y_Hart_finish b_Hart_finish 3 (some .int) 2 := ⟨tb_m 382 (by decide +kernel) rfl, tb_m 5 (by decide +kernel) rfl, by decide +kernel, by decide +kernel, by decide +kernel⟩
theorem mv_Hart_finish : MWV y_Hart_finish := ⟨tb_m 381 (by decide +kernel) rfl, tb_p 10 (by decide +kernel) rfl⟩
theorem mw_Hart_load : MW y_Hart_load b_Hart_load 9 (some .int) 2 := ⟨tb_m 352 (by decide +kernel) rfl, tb_m 5 (by decide +kernel) rfl, by decide +kernel, by decide +kernel, by decide +kernel⟩
theorem mv_Hart_load : MWV y_Hart_load := ⟨tb_m 351 (by decide +kernel) rfl, tb_p 8 (by decide +kernel) rfl⟩
theorem mw_Field_f7 : MW y_Field_f7 b_Field_f7 1 (some .int) 1 := ⟨tb_m 400 (by decide +kernel) rfl, tb_m 13 (by decide +kernel) rfl, by decide +kernel, by decide +kernel, by decide +kernel⟩
theorem ms_Field_f7 : MWS y_Field_f7 := tb_m 399 (by decide +kernel) rfl
theorem mw_Field_rs2 : MW y_Field_rs2 b_Field_rs2 1 (some .int) 1 := ⟨tb_m 403 (by decide +kernel) rfl, tb_m 13 (by decide +kernel) rfl, by decide +kernel, by decide +kernel, by decide +kernel⟩
theorem ms_Field_rs2 : MWS y_Field_rs2 := tb_m 402 (by decide +kernel) rfl
theorem mw_Alu_plain : MW y_Alu_plain b_Alu_plain 3 (some .int) 3 := ⟨tb_m 406 (by decide +kernel) rfl, tb_m 8 (by decide +kernel) rfl, by decide +kernel, by decide +kernel, by decide +kernel⟩
theorem ms_Alu_plain : MWS y_Alu_plain := tb_m 405 (by decide +kernel) rfl
theorem mw_Hart_computeWithImmediate : MW y_Hart_computeWithImmediate b_Hart_computeWithImmediate 5 (some .int) 1 := ⟨tb_m 397 (by decide +kernel) rfl, tb_m 5 (by decide +kernel) rfl, by decide +kernel, by decide +kernel, by decide +kernel⟩
theorem mv_Hart_computeWithImmediate : MWV y_Hart_computeWithImmediate := ⟨tb_m 396 (by decide +kernel) rfl, tb_p 13 (by decide +kernel) rfl⟩
theorem mw_Field_upper : MW y_Field_upper b_Field_upper 1 (some .int) 1 := ⟨tb_m 410 (by decide +kernel) rfl, tb_m 13 (by decide +kernel) rfl, by decide +kernel, by decide +kernel, by decide +kernel⟩
theorem ms_Field_upper : MWS y_Field_upper := tb_m 409 (by decide +kernel) rfl
theorem mw_Field_storeOffset : MW y_Field_storeOffset b_Field_storeOffset 1 (some .int) 1 := ⟨tb_m 417 (by decide +kernel) rfl, tb_m 13 (by decide +kernel) rfl, by decide +kernel, by decide +kernel, by decide +kernel⟩
theorem ms_Field_storeOffset : MWS y_Field_storeOffset := tb_m 416 (by decide +kernel) rfl
theorem mw_Memory_print : MW y_Memory_print b_Memory_print 2 none 1 := ⟨tb_m 428 (by decide +kernel) rfl, tb_m 2 (by decide +kernel) rfl, by decide +kernel, by decide +kernel, by decide +kernel⟩
theorem mv_Memory_print : MWV y_Memory_print := ⟨tb_m 427 (by decide +kernel) rfl, tb_p 15 (by decide +kernel) rfl⟩
theorem mw_Clint_store : MW y_Clint_store b_Clint_store 5 none 2 := ⟨tb_m 432 (by decide +kernel) rfl, tb_m 4 (by decide +kernel) rfl, by decide +kernel, by decide +kernel, by decide +kernel⟩
theorem mv_Clint_store : MWV y_Clint_store := ⟨tb_m 430 (by decide +kernel) rfl, tb_m 431 (by decide +kernel) rfl⟩
theorem mw_Memory_store : MW y_Memory_store b_Memory_store 7 none 3 := ⟨tb_m 424 (by decide +kernel) rfl, tb_m 2 (by decide +kernel) rfl, by decide +kernel, by decide +kernel, by decide +kernel⟩
theorem mv_Memory_store : MWV y_Memory_store := ⟨tb_m 422 (by decide +kernel) rfl, tb_m 423 (by decide +kernel) rfl⟩
theorem mw_Hart_store : MW y_Hart_store b_Hart_store 8 (some .int) 2 := ⟨tb_m 414 (by decide +kernel) rfl, tb_m 5 (by decide +kernel) rfl, by decide +kernel, by decide +kernel, by decide +kernel⟩
theorem mv_Hart_store : MWV y_Hart_store := ⟨tb_m 413 (by decide +kernel) rfl, tb_p 14 (by decide +kernel) rfl⟩
theorem mw_Hart_isChange : MW y_Hart_isChange b_Hart_isChange 2 (some .boolean) 2 := ⟨tb_m 440 (by decide +kernel) rfl, tb_m 5 (by decide +kernel) rfl, by decide +kernel, by decide +kernel, by decide +kernel⟩
theorem ms_Hart_isChange : MWS y_Hart_isChange := tb_m 439 (by decide +kernel) rfl
theorem mw_Memory_storeIfClaimed : MW y_Memory_storeIfClaimed b_Memory_storeIfClaimed 6 (some .boolean) 3 := ⟨tb_m 448 (by decide +kernel) rfl, tb_m 2 (by decide +kernel) rfl, by decide +kernel, by decide +kernel, by decide +kernel⟩
theorem mv_Memory_storeIfClaimed : MWV y_Memory_storeIfClaimed := ⟨tb_m 446 (by decide +kernel) rfl, tb_m 447 (by decide +kernel) rfl⟩
theorem mw_Memory_claim : MW y_Memory_claim b_Memory_claim 4 none 2 := ⟨tb_m 453 (by decide +kernel) rfl, tb_m 2 (by decide +kernel) rfl, by decide +kernel, by decide +kernel, by decide +kernel⟩
theorem mv_Memory_claim : MWV y_Memory_claim := ⟨tb_m 451 (by decide +kernel) rfl, tb_m 452 (by decide +kernel) rfl⟩
theorem mw_Alu_changed : MW y_Alu_changed b_Alu_changed 3 (some .int) 3 := ⟨tb_m 456 (by decide +kernel) rfl, tb_m 8 (by decide +kernel) rfl, by decide +kernel, by decide +kernel, by decide +kernel⟩
theorem ms_Alu_changed : MWS y_Alu_changed := tb_m 455 (by decide +kernel) rfl
theorem mw_Hart_changeAtOnce : MW y_Hart_changeAtOnce b_Hart_changeAtOnce 9 (some .int) 2 := ⟨tb_m 437 (by decide +kernel) rfl, tb_m 5 (by decide +kernel) rfl, by decide +kernel, by decide +kernel, by decide +kernel⟩
theorem mv_Hart_changeAtOnce : MWV y_Hart_changeAtOnce := ⟨tb_m 436 (by decide +kernel) rfl, tb_p 16 (by decide +kernel) rfl⟩
theorem mw_Alu_multiplied : MW y_Alu_multiplied b_Alu_multiplied 3 (some .int) 3 := ⟨tb_m 465 (by decide +kernel) rfl, tb_m 8 (by decide +kernel) rfl, by decide +kernel, by decide +kernel, by decide +kernel⟩
theorem ms_Alu_multiplied : MWS y_Alu_multiplied := tb_m 464 (by decide +kernel) rfl
theorem mw_Alu_divided : MW y_Alu_divided b_Alu_divided 3 (some .int) 3 := ⟨tb_m 469 (by decide +kernel) rfl, tb_m 8 (by decide +kernel) rfl, by decide +kernel, by decide +kernel, by decide +kernel⟩
theorem ms_Alu_divided : MWS y_Alu_divided := tb_m 468 (by decide +kernel) rfl
theorem mw_Hart_compute : MW y_Hart_compute b_Hart_compute 6 (some .int) 1 := ⟨tb_m 462 (by decide +kernel) rfl, tb_m 5 (by decide +kernel) rfl, by decide +kernel, by decide +kernel, by decide +kernel⟩
theorem mv_Hart_compute : MWV y_Hart_compute := ⟨tb_m 461 (by decide +kernel) rfl, tb_p 17 (by decide +kernel) rfl⟩
theorem mw_Alu_branches : MW y_Alu_branches b_Alu_branches 3 (some .boolean) 3 := ⟨tb_m 476 (by decide +kernel) rfl, tb_m 8 (by decide +kernel) rfl, by decide +kernel, by decide +kernel, by decide +kernel⟩
theorem ms_Alu_branches : MWS y_Alu_branches := tb_m 475 (by decide +kernel) rfl
theorem mw_Field_branchOffset : MW y_Field_branchOffset b_Field_branchOffset 1 (some .int) 1 := ⟨tb_m 479 (by decide +kernel) rfl, tb_m 13 (by decide +kernel) rfl, by decide +kernel, by decide +kernel, by decide +kernel⟩
theorem ms_Field_branchOffset : MWS y_Field_branchOffset := tb_m 478 (by decide +kernel) rfl
theorem mw_Hart_branch : MW y_Hart_branch b_Hart_branch 4 (some .int) 1 := ⟨tb_m 473 (by decide +kernel) rfl, tb_m 5 (by decide +kernel) rfl, by decide +kernel, by decide +kernel, by decide +kernel⟩
theorem mv_Hart_branch : MWV y_Hart_branch := ⟨tb_m 472 (by decide +kernel) rfl, tb_p 18 (by decide +kernel) rfl⟩
theorem mw_Hart_jump : MW y_Hart_jump b_Hart_jump 3 (some .int) 2 := ⟨tb_m 487 (by decide +kernel) rfl, tb_m 5 (by decide +kernel) rfl, by decide +kernel, by decide +kernel, by decide +kernel⟩
theorem mv_Hart_jump : MWV y_Hart_jump := ⟨tb_m 486 (by decide +kernel) rfl, tb_p 20 (by decide +kernel) rfl⟩
theorem mw_Hart_jumpByRegister : MW y_Hart_jumpByRegister b_Hart_jumpByRegister 2 (some .int) 1 := ⟨tb_m 483 (by decide +kernel) rfl, tb_m 5 (by decide +kernel) rfl, by decide +kernel, by decide +kernel, by decide +kernel⟩
theorem mv_Hart_jumpByRegister : MWV y_Hart_jumpByRegister := ⟨tb_m 482 (by decide +kernel) rfl, tb_p 19 (by decide +kernel) rfl⟩
theorem mw_Field_jumpOffset : MW y_Field_jumpOffset b_Field_jumpOffset 1 (some .int) 1 := ⟨tb_m 490 (by decide +kernel) rfl, tb_m 13 (by decide +kernel) rfl, by decide +kernel, by decide +kernel, by decide +kernel⟩
theorem ms_Field_jumpOffset : MWS y_Field_jumpOffset := tb_m 489 (by decide +kernel) rfl
theorem mw_Csrs_leaveMachine : MW y_Csrs_leaveMachine b_Csrs_leaveMachine 4 (some .int) 0 := ⟨tb_m 503 (by decide +kernel) rfl, tb_m 6 (by decide +kernel) rfl, by decide +kernel, by decide +kernel, by decide +kernel⟩
theorem mv_Csrs_leaveMachine : MWV y_Csrs_leaveMachine := ⟨tb_m 501 (by decide +kernel) rfl, tb_m 502 (by decide +kernel) rfl⟩
theorem mw_Hart_returnFromMachine : MW y_Hart_returnFromMachine b_Hart_returnFromMachine 1 (some .int) 0 := ⟨tb_m 499 (by decide +kernel) rfl, tb_m 5 (by decide +kernel) rfl, by decide +kernel, by decide +kernel, by decide +kernel⟩
theorem mv_Hart_returnFromMachine : MWV y_Hart_returnFromMachine := ⟨tb_m 498 (by decide +kernel) rfl, tb_p 22 (by decide +kernel) rfl⟩
theorem mw_Csrs_leaveSupervisor : MW y_Csrs_leaveSupervisor b_Csrs_leaveSupervisor 3 (some .int) 0 := ⟨tb_m 512 (by decide +kernel) rfl, tb_m 6 (by decide +kernel) rfl, by decide +kernel, by decide +kernel, by decide +kernel⟩
theorem mv_Csrs_leaveSupervisor : MWV y_Csrs_leaveSupervisor := ⟨tb_m 510 (by decide +kernel) rfl, tb_m 511 (by decide +kernel) rfl⟩
theorem mw_Hart_returnFromSupervisor : MW y_Hart_returnFromSupervisor b_Hart_returnFromSupervisor 1 (some .int) 0 := ⟨tb_m 508 (by decide +kernel) rfl, tb_m 5 (by decide +kernel) rfl, by decide +kernel, by decide +kernel, by decide +kernel⟩
theorem mv_Hart_returnFromSupervisor : MWV y_Hart_returnFromSupervisor := ⟨tb_m 507 (by decide +kernel) rfl, tb_p 23 (by decide +kernel) rfl⟩
theorem mw_Hart_callSystem : MW y_Hart_callSystem b_Hart_callSystem 3 (some .int) 1 := ⟨tb_m 495 (by decide +kernel) rfl, tb_m 5 (by decide +kernel) rfl, by decide +kernel, by decide +kernel, by decide +kernel⟩
theorem mv_Hart_callSystem : MWV y_Hart_callSystem := ⟨tb_m 494 (by decide +kernel) rfl, tb_p 21 (by decide +kernel) rfl⟩
theorem mw_Csrs_isTold : MW y_Csrs_isTold b_Csrs_isTold 1 (some .boolean) 1 := ⟨tb_m 523 (by decide +kernel) rfl, tb_m 6 (by decide +kernel) rfl, by decide +kernel, by decide +kernel, by decide +kernel⟩
theorem ms_Csrs_isTold : MWS y_Csrs_isTold := tb_m 522 (by decide +kernel) rfl
theorem mw_Csrs_isReadOnly : MW y_Csrs_isReadOnly b_Csrs_isReadOnly 1 (some .boolean) 1 := ⟨tb_m 526 (by decide +kernel) rfl, tb_m 6 (by decide +kernel) rfl, by decide +kernel, by decide +kernel, by decide +kernel⟩
theorem ms_Csrs_isReadOnly : MWS y_Csrs_isReadOnly := tb_m 525 (by decide +kernel) rfl
theorem mw_Csrs_isAllowed : MW y_Csrs_isAllowed b_Csrs_isAllowed 3 (some .boolean) 3 := ⟨tb_m 520 (by decide +kernel) rfl, tb_m 6 (by decide +kernel) rfl, by decide +kernel, by decide +kernel, by decide +kernel⟩
theorem ms_Csrs_isAllowed : MWS y_Csrs_isAllowed := tb_m 519 (by decide +kernel) rfl
theorem mw_Csrs_read : MW y_Csrs_read b_Csrs_read 3 (some .int) 2 := ⟨tb_m 530 (by decide +kernel) rfl, tb_m 6 (by decide +kernel) rfl, by decide +kernel, by decide +kernel, by decide +kernel⟩
theorem mv_Csrs_read : MWV y_Csrs_read := ⟨tb_m 528 (by decide +kernel) rfl, tb_m 529 (by decide +kernel) rfl⟩
theorem mw_Hart_mixed : MW y_Hart_mixed b_Hart_mixed 3 (some .int) 3 := ⟨tb_m 535 (by decide +kernel) rfl, tb_m 5 (by decide +kernel) rfl, by decide +kernel, by decide +kernel, by decide +kernel⟩
theorem ms_Hart_mixed : MWS y_Hart_mixed := tb_m 534 (by decide +kernel) rfl
theorem mw_Csrs_merged : MW y_Csrs_merged b_Csrs_merged 3 (some .int) 3 := ⟨tb_m 546 (by decide +kernel) rfl, tb_m 6 (by decide +kernel) rfl, by decide +kernel, by decide +kernel, by decide +kernel⟩
theorem ms_Csrs_merged : MWS y_Csrs_merged := tb_m 545 (by decide +kernel) rfl
theorem mw_Csrs_writeSupervisor : MW y_Csrs_writeSupervisor b_Csrs_writeSupervisor 3 none 2 := ⟨tb_m 543 (by decide +kernel) rfl, tb_m 6 (by decide +kernel) rfl, by decide +kernel, by decide +kernel, by decide +kernel⟩
theorem mv_Csrs_writeSupervisor : MWV y_Csrs_writeSupervisor := ⟨tb_m 542 (by decide +kernel) rfl, tb_p 25 (by decide +kernel) rfl⟩
theorem mw_Csrs_withoutLevelTwo : MW y_Csrs_withoutLevelTwo b_Csrs_withoutLevelTwo 1 (some .int) 1 := ⟨tb_m 555 (by decide +kernel) rfl, tb_m 6 (by decide +kernel) rfl, by decide +kernel, by decide +kernel, by decide +kernel⟩
theorem ms_Csrs_withoutLevelTwo : MWS y_Csrs_withoutLevelTwo := tb_m 554 (by decide +kernel) rfl
theorem mw_Csrs_writeMachine : MW y_Csrs_writeMachine b_Csrs_writeMachine 3 none 2 := ⟨tb_m 551 (by decide +kernel) rfl, tb_m 6 (by decide +kernel) rfl, by decide +kernel, by decide +kernel, by decide +kernel⟩
theorem mv_Csrs_writeMachine : MWV y_Csrs_writeMachine := ⟨tb_m 550 (by decide +kernel) rfl, tb_p 26 (by decide +kernel) rfl⟩
theorem mw_Csrs_write : MW y_Csrs_write b_Csrs_write 3 none 2 := ⟨tb_m 539 (by decide +kernel) rfl, tb_m 6 (by decide +kernel) rfl, by decide +kernel, by decide +kernel, by decide +kernel⟩
theorem mv_Csrs_write : MWV y_Csrs_write := ⟨tb_m 537 (by decide +kernel) rfl, tb_m 538 (by decide +kernel) rfl⟩
theorem mw_Hart_exchange : MW y_Hart_exchange b_Hart_exchange 10 (some .int) 2 := ⟨tb_m 517 (by decide +kernel) rfl, tb_m 5 (by decide +kernel) rfl, by decide +kernel, by decide +kernel, by decide +kernel⟩
theorem mv_Hart_exchange : MWV y_Hart_exchange := ⟨tb_m 516 (by decide +kernel) rfl, tb_p 24 (by decide +kernel) rfl⟩
theorem mw_Hart_execute : MW y_Hart_execute b_Hart_execute 3 (some .int) 2 := ⟨tb_m 348 (by decide +kernel) rfl, tb_m 5 (by decide +kernel) rfl, by decide +kernel, by decide +kernel, by decide +kernel⟩
theorem mv_Hart_execute : MWV y_Hart_execute := ⟨tb_m 347 (by decide +kernel) rfl, tb_p 7 (by decide +kernel) rfl⟩
theorem mw_Csrs_handsDownTrap : MW y_Csrs_handsDownTrap b_Csrs_handsDownTrap 2 (some .boolean) 1 := ⟨tb_m 560 (by decide +kernel) rfl, tb_m 6 (by decide +kernel) rfl, by decide +kernel, by decide +kernel, by decide +kernel⟩
theorem mv_Csrs_handsDownTrap : MWV y_Csrs_handsDownTrap := ⟨tb_m 558 (by decide +kernel) rfl, tb_m 559 (by decide +kernel) rfl⟩
theorem mw_Hart_run : MW y_Hart_run b_Hart_run 7 (some .int) 1 := ⟨tb_m 216 (by decide +kernel) rfl, tb_m 5 (by decide +kernel) rfl, by decide +kernel, by decide +kernel, by decide +kernel⟩
theorem mv_Hart_run : MWV y_Hart_run := ⟨tb_m 214 (by decide +kernel) rfl, tb_m 215 (by decide +kernel) rfl⟩
theorem mw_Clint_advance : MW y_Clint_advance b_Clint_advance 1 none 0 := ⟨tb_m 569 (by decide +kernel) rfl, tb_m 4 (by decide +kernel) rfl, by decide +kernel, by decide +kernel, by decide +kernel⟩
theorem mv_Clint_advance : MWV y_Clint_advance := ⟨tb_m 567 (by decide +kernel) rfl, tb_m 568 (by decide +kernel) rfl⟩
theorem i_Memory : ∀ w ∈ u_ws R_Memory F_Memory 5, w ∈ tb := u_in_tb [61, 63, 65, 67, 69] (by decide +kernel) (by decide +kernel)
theorem i_Clint : ∀ w ∈ u_ws R_Clint F_Clint 1, w ∈ tb := u_in_tb [46] (by decide +kernel) (by decide +kernel)
theorem i_Csrs : ∀ w ∈ u_ws R_Csrs F_Csrs 17, w ∈ tb := u_in_tb [108, 110, 112, 114, 116, 118, 120, 122, 124, 126, 128, 130, 132, 134, 136, 138, 140] (by decide +kernel) (by decide +kernel)
theorem i_Hart : ∀ w ∈ u_ws R_Hart F_Hart 6, w ∈ tb := u_in_tb [153, 155, 157, 159, 161, 163] (by decide +kernel) (by decide +kernel)
end
section
theorem d_Alu_below_0 : decode b_Alu_below 0 = .ok (.iload_n 0, 1) := by decide +kernel
theorem d_Alu_below_1 : decode b_Alu_below 1 = .ok (.ldc 9, 2) := by decide +kernel
theorem d_Alu_below_3 : decode b_Alu_below 3 = .ok (.ixor, 1) := by decide +kernel
theorem d_Alu_below_4 : decode b_Alu_below 4 = .ok (.iload_n 1, 1) := by decide +kernel
theorem d_Alu_below_5 : decode b_Alu_below 5 = .ok (.ldc 9, 2) := by decide +kernel
theorem d_Alu_below_7 : decode b_Alu_below 7 = .ok (.ixor, 1) := by decide +kernel
theorem d_Alu_below_8 : decode b_Alu_below 8 = .ok (.if_icmp .ge 7, 3) := by decide +kernel
theorem d_Alu_below_11 : decode b_Alu_below 11 = .ok (.iconst 1, 1) := by decide +kernel
theorem d_Alu_below_12 : decode b_Alu_below 12 = .ok (.goto 4, 3) := by decide +kernel
theorem d_Alu_below_15 : decode b_Alu_below 15 = .ok (.iconst 0, 1) := by decide +kernel
theorem d_Alu_below_16 : decode b_Alu_below 16 = .ok (.ireturn, 1) := by decide +kernel
theorem d_Fault_of_0 : decode b_Fault_of 0 = .ok (.ldc2_w 7, 3) := by decide +kernel
theorem d_Fault_of_3 : decode b_Fault_of 3 = .ok (.iload_n 0, 1) := by decide +kernel
theorem d_Fault_of_4 : decode b_Fault_of 4 = .ok (.i2l, 1) := by decide +kernel
theorem d_Fault_of_5 : decode b_Fault_of 5 = .ok (.lsub, 1) := by decide +kernel
theorem d_Fault_of_6 : decode b_Fault_of 6 = .ok (.lreturn, 1) := by decide +kernel
theorem d_Fault_causeOf_0 : decode b_Fault_causeOf 0 = .ok (.ldc2_w 7, 3) := by decide +kernel
theorem d_Fault_causeOf_3 : decode b_Fault_causeOf 3 = .ok (.lload_n 0, 1) := by decide +kernel
theorem d_Fault_causeOf_4 : decode b_Fault_causeOf 4 = .ok (.lsub, 1) := by decide +kernel
theorem d_Fault_causeOf_5 : decode b_Fault_causeOf 5 = .ok (.l2i, 1) := by decide +kernel
theorem d_Fault_causeOf_6 : decode b_Fault_causeOf 6 = .ok (.ireturn, 1) := by decide +kernel
theorem d_Field_f3_0 : decode b_Field_f3 0 = .ok (.iload_n 0, 1) := by decide +kernel
theorem d_Field_f3_1 : decode b_Field_f3 1 = .ok (.bipush 12, 2) := by decide +kernel
theorem d_Field_f3_3 : decode b_Field_f3 3 = .ok (.iushr, 1) := by decide +kernel
theorem d_Field_f3_4 : decode b_Field_f3 4 = .ok (.bipush 7, 2) := by decide +kernel
theorem d_Field_f3_6 : decode b_Field_f3 6 = .ok (.iand, 1) := by decide +kernel
theorem d_Field_f3_7 : decode b_Field_f3 7 = .ok (.ireturn, 1) := by decide +kernel
theorem d_Field_rs1_0 : decode b_Field_rs1 0 = .ok (.iload_n 0, 1) := by decide +kernel
theorem d_Field_rs1_1 : decode b_Field_rs1 1 = .ok (.bipush 15, 2) := by decide +kernel
theorem d_Field_rs1_3 : decode b_Field_rs1 3 = .ok (.iushr, 1) := by decide +kernel
theorem d_Field_rs1_4 : decode b_Field_rs1 4 = .ok (.bipush 31, 2) := by decide +kernel
theorem d_Field_rs1_6 : decode b_Field_rs1 6 = .ok (.iand, 1) := by decide +kernel
theorem d_Field_rs1_7 : decode b_Field_rs1 7 = .ok (.ireturn, 1) := by decide +kernel
theorem d_Field_immediate_0 : decode b_Field_immediate 0 = .ok (.iload_n 0, 1) := by decide +kernel
theorem d_Field_immediate_1 : decode b_Field_immediate 1 = .ok (.bipush 20, 2) := by decide +kernel
theorem d_Field_immediate_3 : decode b_Field_immediate 3 = .ok (.ishr, 1) := by decide +kernel
theorem d_Field_immediate_4 : decode b_Field_immediate 4 = .ok (.ireturn, 1) := by decide +kernel
theorem d_Field_rd_0 : decode b_Field_rd 0 = .ok (.iload_n 0, 1) := by decide +kernel
theorem d_Field_rd_1 : decode b_Field_rd 1 = .ok (.bipush 7, 2) := by decide +kernel
theorem d_Field_rd_3 : decode b_Field_rd 3 = .ok (.iushr, 1) := by decide +kernel
theorem d_Field_rd_4 : decode b_Field_rd 4 = .ok (.bipush 31, 2) := by decide +kernel
theorem d_Field_rd_6 : decode b_Field_rd 6 = .ok (.iand, 1) := by decide +kernel
theorem d_Field_rd_7 : decode b_Field_rd 7 = .ok (.ireturn, 1) := by decide +kernel
theorem d_Field_f7_0 : decode b_Field_f7 0 = .ok (.iload_n 0, 1) := by decide +kernel
theorem d_Field_f7_1 : decode b_Field_f7 1 = .ok (.bipush 25, 2) := by decide +kernel
theorem d_Field_f7_3 : decode b_Field_f7 3 = .ok (.iushr, 1) := by decide +kernel
theorem d_Field_f7_4 : decode b_Field_f7 4 = .ok (.ireturn, 1) := by decide +kernel
theorem d_Field_rs2_0 : decode b_Field_rs2 0 = .ok (.iload_n 0, 1) := by decide +kernel
theorem d_Field_rs2_1 : decode b_Field_rs2 1 = .ok (.bipush 20, 2) := by decide +kernel
theorem d_Field_rs2_3 : decode b_Field_rs2 3 = .ok (.iushr, 1) := by decide +kernel
theorem d_Field_rs2_4 : decode b_Field_rs2 4 = .ok (.bipush 31, 2) := by decide +kernel
theorem d_Field_rs2_6 : decode b_Field_rs2 6 = .ok (.iand, 1) := by decide +kernel
theorem d_Field_rs2_7 : decode b_Field_rs2 7 = .ok (.ireturn, 1) := by decide +kernel
theorem d_Alu_plain_0 : decode b_Alu_plain 0 = .ok (.iload_n 0, 1) := by decide +kernel
theorem d_Alu_plain_1 : decode b_Alu_plain 1 = .ok (.tableswitch 94 0 6 #[43, 47, 54, 65, 79, 83, 90], 43) := by decide +kernel
theorem d_Alu_plain_44 : decode b_Alu_plain 44 = .ok (.iload_n 1, 1) := by decide +kernel
theorem d_Alu_plain_45 : decode b_Alu_plain 45 = .ok (.iload_n 2, 1) := by decide +kernel
theorem d_Alu_plain_46 : decode b_Alu_plain 46 = .ok (.iadd, 1) := by decide +kernel
theorem d_Alu_plain_47 : decode b_Alu_plain 47 = .ok (.ireturn, 1) := by decide +kernel
theorem d_Alu_plain_48 : decode b_Alu_plain 48 = .ok (.iload_n 1, 1) := by decide +kernel
theorem d_Alu_plain_49 : decode b_Alu_plain 49 = .ok (.iload_n 2, 1) := by decide +kernel
theorem d_Alu_plain_50 : decode b_Alu_plain 50 = .ok (.bipush 31, 2) := by decide +kernel
theorem d_Alu_plain_52 : decode b_Alu_plain 52 = .ok (.iand, 1) := by decide +kernel
theorem d_Alu_plain_53 : decode b_Alu_plain 53 = .ok (.ishl, 1) := by decide +kernel
theorem d_Alu_plain_54 : decode b_Alu_plain 54 = .ok (.ireturn, 1) := by decide +kernel
theorem d_Alu_plain_55 : decode b_Alu_plain 55 = .ok (.iload_n 1, 1) := by decide +kernel
theorem d_Alu_plain_56 : decode b_Alu_plain 56 = .ok (.iload_n 2, 1) := by decide +kernel
theorem d_Alu_plain_57 : decode b_Alu_plain 57 = .ok (.if_icmp .ge 7, 3) := by decide +kernel
theorem d_Alu_plain_60 : decode b_Alu_plain 60 = .ok (.iconst 1, 1) := by decide +kernel
theorem d_Alu_plain_61 : decode b_Alu_plain 61 = .ok (.goto 4, 3) := by decide +kernel
theorem d_Alu_plain_64 : decode b_Alu_plain 64 = .ok (.iconst 0, 1) := by decide +kernel
theorem d_Alu_plain_65 : decode b_Alu_plain 65 = .ok (.ireturn, 1) := by decide +kernel
theorem d_Alu_plain_66 : decode b_Alu_plain 66 = .ok (.iload_n 1, 1) := by decide +kernel
theorem d_Alu_plain_67 : decode b_Alu_plain 67 = .ok (.iload_n 2, 1) := by decide +kernel
theorem d_Alu_plain_68 : decode b_Alu_plain 68 = .ok (.invokestatic 10, 3) := by decide +kernel
theorem d_Alu_plain_71 : decode b_Alu_plain 71 = .ok (.ifCond .eq 7, 3) := by decide +kernel
theorem d_Alu_plain_74 : decode b_Alu_plain 74 = .ok (.iconst 1, 1) := by decide +kernel
theorem d_Alu_plain_75 : decode b_Alu_plain 75 = .ok (.goto 4, 3) := by decide +kernel
theorem d_Alu_plain_78 : decode b_Alu_plain 78 = .ok (.iconst 0, 1) := by decide +kernel
theorem d_Alu_plain_79 : decode b_Alu_plain 79 = .ok (.ireturn, 1) := by decide +kernel
theorem d_Alu_plain_80 : decode b_Alu_plain 80 = .ok (.iload_n 1, 1) := by decide +kernel
theorem d_Alu_plain_81 : decode b_Alu_plain 81 = .ok (.iload_n 2, 1) := by decide +kernel
theorem d_Alu_plain_82 : decode b_Alu_plain 82 = .ok (.ixor, 1) := by decide +kernel
theorem d_Alu_plain_83 : decode b_Alu_plain 83 = .ok (.ireturn, 1) := by decide +kernel
theorem d_Alu_plain_84 : decode b_Alu_plain 84 = .ok (.iload_n 1, 1) := by decide +kernel
theorem d_Alu_plain_85 : decode b_Alu_plain 85 = .ok (.iload_n 2, 1) := by decide +kernel
theorem d_Alu_plain_86 : decode b_Alu_plain 86 = .ok (.bipush 31, 2) := by decide +kernel
theorem d_Alu_plain_88 : decode b_Alu_plain 88 = .ok (.iand, 1) := by decide +kernel
theorem d_Alu_plain_89 : decode b_Alu_plain 89 = .ok (.iushr, 1) := by decide +kernel
theorem d_Alu_plain_90 : decode b_Alu_plain 90 = .ok (.ireturn, 1) := by decide +kernel
theorem d_Alu_plain_91 : decode b_Alu_plain 91 = .ok (.iload_n 1, 1) := by decide +kernel
theorem d_Alu_plain_92 : decode b_Alu_plain 92 = .ok (.iload_n 2, 1) := by decide +kernel
theorem d_Alu_plain_93 : decode b_Alu_plain 93 = .ok (.ior, 1) := by decide +kernel
theorem d_Alu_plain_94 : decode b_Alu_plain 94 = .ok (.ireturn, 1) := by decide +kernel
theorem d_Alu_plain_95 : decode b_Alu_plain 95 = .ok (.iload_n 1, 1) := by decide +kernel
theorem d_Alu_plain_96 : decode b_Alu_plain 96 = .ok (.iload_n 2, 1) := by decide +kernel
theorem d_Alu_plain_97 : decode b_Alu_plain 97 = .ok (.iand, 1) := by decide +kernel
theorem d_Alu_plain_98 : decode b_Alu_plain 98 = .ok (.ireturn, 1) := by decide +kernel
theorem d_Field_upper_0 : decode b_Field_upper 0 = .ok (.iload_n 0, 1) := by decide +kernel
theorem d_Field_upper_1 : decode b_Field_upper 1 = .ok (.sipush (-4096), 3) := by decide +kernel
theorem d_Field_upper_4 : decode b_Field_upper 4 = .ok (.iand, 1) := by decide +kernel
theorem d_Field_upper_5 : decode b_Field_upper 5 = .ok (.ireturn, 1) := by decide +kernel
theorem d_Field_storeOffset_0 : decode b_Field_storeOffset 0 = .ok (.iload_n 0, 1) := by decide +kernel
theorem d_Field_storeOffset_1 : decode b_Field_storeOffset 1 = .ok (.bipush 25, 2) := by decide +kernel
theorem d_Field_storeOffset_3 : decode b_Field_storeOffset 3 = .ok (.ishr, 1) := by decide +kernel
theorem d_Field_storeOffset_4 : decode b_Field_storeOffset 4 = .ok (.iconst 5, 1) := by decide +kernel
theorem d_Field_storeOffset_5 : decode b_Field_storeOffset 5 = .ok (.ishl, 1) := by decide +kernel
theorem d_Field_storeOffset_6 : decode b_Field_storeOffset 6 = .ok (.iload_n 0, 1) := by decide +kernel
theorem d_Field_storeOffset_7 : decode b_Field_storeOffset 7 = .ok (.invokestatic 7, 3) := by decide +kernel
theorem d_Field_storeOffset_10 : decode b_Field_storeOffset 10 = .ok (.ior, 1) := by decide +kernel
theorem d_Field_storeOffset_11 : decode b_Field_storeOffset 11 = .ok (.ireturn, 1) := by decide +kernel
theorem d_Alu_changed_0 : decode b_Alu_changed 0 = .ok (.iload_n 0, 1) := by decide +kernel
theorem d_Alu_changed_1 : decode b_Alu_changed 1 = .ok (.tableswitch 187 0 28 #[131, 187, 187, 187, 135, 187, 187, 187, 139, 187, 187, 187, 143, 187, 187, 187, 147, 187, 187, 187, 153, 187, 187, 187, 159, 187, 187, 187, 173], 131) := by decide +kernel
theorem d_Alu_changed_132 : decode b_Alu_changed 132 = .ok (.iload_n 1, 1) := by decide +kernel
theorem d_Alu_changed_133 : decode b_Alu_changed 133 = .ok (.iload_n 2, 1) := by decide +kernel
theorem d_Alu_changed_134 : decode b_Alu_changed 134 = .ok (.iadd, 1) := by decide +kernel
theorem d_Alu_changed_135 : decode b_Alu_changed 135 = .ok (.ireturn, 1) := by decide +kernel
theorem d_Alu_changed_136 : decode b_Alu_changed 136 = .ok (.iload_n 1, 1) := by decide +kernel
theorem d_Alu_changed_137 : decode b_Alu_changed 137 = .ok (.iload_n 2, 1) := by decide +kernel
theorem d_Alu_changed_138 : decode b_Alu_changed 138 = .ok (.ixor, 1) := by decide +kernel
theorem d_Alu_changed_139 : decode b_Alu_changed 139 = .ok (.ireturn, 1) := by decide +kernel
theorem d_Alu_changed_140 : decode b_Alu_changed 140 = .ok (.iload_n 1, 1) := by decide +kernel
theorem d_Alu_changed_141 : decode b_Alu_changed 141 = .ok (.iload_n 2, 1) := by decide +kernel
theorem d_Alu_changed_142 : decode b_Alu_changed 142 = .ok (.ior, 1) := by decide +kernel
theorem d_Alu_changed_143 : decode b_Alu_changed 143 = .ok (.ireturn, 1) := by decide +kernel
theorem d_Alu_changed_144 : decode b_Alu_changed 144 = .ok (.iload_n 1, 1) := by decide +kernel
theorem d_Alu_changed_145 : decode b_Alu_changed 145 = .ok (.iload_n 2, 1) := by decide +kernel
theorem d_Alu_changed_146 : decode b_Alu_changed 146 = .ok (.iand, 1) := by decide +kernel
theorem d_Alu_changed_147 : decode b_Alu_changed 147 = .ok (.ireturn, 1) := by decide +kernel
theorem d_Alu_changed_148 : decode b_Alu_changed 148 = .ok (.iload_n 1, 1) := by decide +kernel
theorem d_Alu_changed_149 : decode b_Alu_changed 149 = .ok (.iload_n 2, 1) := by decide +kernel
theorem d_Alu_changed_150 : decode b_Alu_changed 150 = .ok (.invokestatic 18, 3) := by decide +kernel
theorem d_Alu_changed_153 : decode b_Alu_changed 153 = .ok (.ireturn, 1) := by decide +kernel
theorem d_Alu_changed_154 : decode b_Alu_changed 154 = .ok (.iload_n 1, 1) := by decide +kernel
theorem d_Alu_changed_155 : decode b_Alu_changed 155 = .ok (.iload_n 2, 1) := by decide +kernel
theorem d_Alu_changed_156 : decode b_Alu_changed 156 = .ok (.invokestatic 24, 3) := by decide +kernel
theorem d_Alu_changed_159 : decode b_Alu_changed 159 = .ok (.ireturn, 1) := by decide +kernel
theorem d_Alu_changed_160 : decode b_Alu_changed 160 = .ok (.iload_n 1, 1) := by decide +kernel
theorem d_Alu_changed_161 : decode b_Alu_changed 161 = .ok (.iload_n 2, 1) := by decide +kernel
theorem d_Alu_changed_162 : decode b_Alu_changed 162 = .ok (.invokestatic 10, 3) := by decide +kernel
theorem d_Alu_changed_165 : decode b_Alu_changed 165 = .ok (.ifCond .eq 7, 3) := by decide +kernel
theorem d_Alu_changed_168 : decode b_Alu_changed 168 = .ok (.iload_n 1, 1) := by decide +kernel
theorem d_Alu_changed_169 : decode b_Alu_changed 169 = .ok (.goto 4, 3) := by decide +kernel
theorem d_Alu_changed_172 : decode b_Alu_changed 172 = .ok (.iload_n 2, 1) := by decide +kernel
theorem d_Alu_changed_173 : decode b_Alu_changed 173 = .ok (.ireturn, 1) := by decide +kernel
theorem d_Alu_changed_174 : decode b_Alu_changed 174 = .ok (.iload_n 1, 1) := by decide +kernel
theorem d_Alu_changed_175 : decode b_Alu_changed 175 = .ok (.iload_n 2, 1) := by decide +kernel
theorem d_Alu_changed_176 : decode b_Alu_changed 176 = .ok (.invokestatic 10, 3) := by decide +kernel
theorem d_Alu_changed_179 : decode b_Alu_changed 179 = .ok (.ifCond .eq 7, 3) := by decide +kernel
theorem d_Alu_changed_182 : decode b_Alu_changed 182 = .ok (.iload_n 2, 1) := by decide +kernel
theorem d_Alu_changed_183 : decode b_Alu_changed 183 = .ok (.goto 4, 3) := by decide +kernel
theorem d_Alu_changed_186 : decode b_Alu_changed 186 = .ok (.iload_n 1, 1) := by decide +kernel
theorem d_Alu_changed_187 : decode b_Alu_changed 187 = .ok (.ireturn, 1) := by decide +kernel
theorem d_Alu_changed_188 : decode b_Alu_changed 188 = .ok (.iload_n 2, 1) := by decide +kernel
theorem d_Alu_changed_189 : decode b_Alu_changed 189 = .ok (.ireturn, 1) := by decide +kernel
theorem d_Alu_multiplied_0 : decode b_Alu_multiplied 0 = .ok (.iload_n 0, 1) := by decide +kernel
theorem d_Alu_multiplied_1 : decode b_Alu_multiplied 1 = .ok (.tableswitch 69 1 3 #[27, 37, 51], 27) := by decide +kernel
theorem d_Alu_multiplied_28 : decode b_Alu_multiplied 28 = .ok (.iload_n 1, 1) := by decide +kernel
theorem d_Alu_multiplied_29 : decode b_Alu_multiplied 29 = .ok (.i2l, 1) := by decide +kernel
theorem d_Alu_multiplied_30 : decode b_Alu_multiplied 30 = .ok (.iload_n 2, 1) := by decide +kernel
theorem d_Alu_multiplied_31 : decode b_Alu_multiplied 31 = .ok (.i2l, 1) := by decide +kernel
theorem d_Alu_multiplied_32 : decode b_Alu_multiplied 32 = .ok (.lmul, 1) := by decide +kernel
theorem d_Alu_multiplied_33 : decode b_Alu_multiplied 33 = .ok (.bipush 32, 2) := by decide +kernel
theorem d_Alu_multiplied_35 : decode b_Alu_multiplied 35 = .ok (.lshr, 1) := by decide +kernel
theorem d_Alu_multiplied_36 : decode b_Alu_multiplied 36 = .ok (.l2i, 1) := by decide +kernel
theorem d_Alu_multiplied_37 : decode b_Alu_multiplied 37 = .ok (.ireturn, 1) := by decide +kernel
theorem d_Alu_multiplied_38 : decode b_Alu_multiplied 38 = .ok (.iload_n 1, 1) := by decide +kernel
theorem d_Alu_multiplied_39 : decode b_Alu_multiplied 39 = .ok (.i2l, 1) := by decide +kernel
theorem d_Alu_multiplied_40 : decode b_Alu_multiplied 40 = .ok (.iload_n 2, 1) := by decide +kernel
theorem d_Alu_multiplied_41 : decode b_Alu_multiplied 41 = .ok (.i2l, 1) := by decide +kernel
theorem d_Alu_multiplied_42 : decode b_Alu_multiplied 42 = .ok (.ldc2_w 16, 3) := by decide +kernel
theorem d_Alu_multiplied_45 : decode b_Alu_multiplied 45 = .ok (.land, 1) := by decide +kernel
theorem d_Alu_multiplied_46 : decode b_Alu_multiplied 46 = .ok (.lmul, 1) := by decide +kernel
theorem d_Alu_multiplied_47 : decode b_Alu_multiplied 47 = .ok (.bipush 32, 2) := by decide +kernel
theorem d_Alu_multiplied_49 : decode b_Alu_multiplied 49 = .ok (.lshr, 1) := by decide +kernel
theorem d_Alu_multiplied_50 : decode b_Alu_multiplied 50 = .ok (.l2i, 1) := by decide +kernel
theorem d_Alu_multiplied_51 : decode b_Alu_multiplied 51 = .ok (.ireturn, 1) := by decide +kernel
theorem d_Alu_multiplied_52 : decode b_Alu_multiplied 52 = .ok (.iload_n 1, 1) := by decide +kernel
theorem d_Alu_multiplied_53 : decode b_Alu_multiplied 53 = .ok (.i2l, 1) := by decide +kernel
theorem d_Alu_multiplied_54 : decode b_Alu_multiplied 54 = .ok (.ldc2_w 16, 3) := by decide +kernel
theorem d_Alu_multiplied_57 : decode b_Alu_multiplied 57 = .ok (.land, 1) := by decide +kernel
theorem d_Alu_multiplied_58 : decode b_Alu_multiplied 58 = .ok (.iload_n 2, 1) := by decide +kernel
theorem d_Alu_multiplied_59 : decode b_Alu_multiplied 59 = .ok (.i2l, 1) := by decide +kernel
theorem d_Alu_multiplied_60 : decode b_Alu_multiplied 60 = .ok (.ldc2_w 16, 3) := by decide +kernel
theorem d_Alu_multiplied_63 : decode b_Alu_multiplied 63 = .ok (.land, 1) := by decide +kernel
theorem d_Alu_multiplied_64 : decode b_Alu_multiplied 64 = .ok (.lmul, 1) := by decide +kernel
theorem d_Alu_multiplied_65 : decode b_Alu_multiplied 65 = .ok (.bipush 32, 2) := by decide +kernel
theorem d_Alu_multiplied_67 : decode b_Alu_multiplied 67 = .ok (.lshr, 1) := by decide +kernel
theorem d_Alu_multiplied_68 : decode b_Alu_multiplied 68 = .ok (.l2i, 1) := by decide +kernel
theorem d_Alu_multiplied_69 : decode b_Alu_multiplied 69 = .ok (.ireturn, 1) := by decide +kernel
theorem d_Alu_multiplied_70 : decode b_Alu_multiplied 70 = .ok (.iload_n 1, 1) := by decide +kernel
theorem d_Alu_multiplied_71 : decode b_Alu_multiplied 71 = .ok (.iload_n 2, 1) := by decide +kernel
theorem d_Alu_multiplied_72 : decode b_Alu_multiplied 72 = .ok (.imul, 1) := by decide +kernel
theorem d_Alu_multiplied_73 : decode b_Alu_multiplied 73 = .ok (.ireturn, 1) := by decide +kernel
theorem d_Alu_divided_0 : decode b_Alu_divided 0 = .ok (.iload_n 2, 1) := by decide +kernel
theorem d_Alu_divided_1 : decode b_Alu_divided 1 = .ok (.ifCond .ne 15, 3) := by decide +kernel
theorem d_Alu_divided_4 : decode b_Alu_divided 4 = .ok (.iload_n 0, 1) := by decide +kernel
theorem d_Alu_divided_5 : decode b_Alu_divided 5 = .ok (.bipush 6, 2) := by decide +kernel
theorem d_Alu_divided_7 : decode b_Alu_divided 7 = .ok (.if_icmp .ge 7, 3) := by decide +kernel
theorem d_Alu_divided_10 : decode b_Alu_divided 10 = .ok (.iconst (-1), 1) := by decide +kernel
theorem d_Alu_divided_11 : decode b_Alu_divided 11 = .ok (.goto 4, 3) := by decide +kernel
theorem d_Alu_divided_14 : decode b_Alu_divided 14 = .ok (.iload_n 1, 1) := by decide +kernel
theorem d_Alu_divided_15 : decode b_Alu_divided 15 = .ok (.ireturn, 1) := by decide +kernel
theorem d_Alu_divided_16 : decode b_Alu_divided 16 = .ok (.iload_n 0, 1) := by decide +kernel
theorem d_Alu_divided_17 : decode b_Alu_divided 17 = .ok (.tableswitch 50 4 6 #[27, 31, 46], 27) := by decide +kernel
theorem d_Alu_divided_44 : decode b_Alu_divided 44 = .ok (.iload_n 1, 1) := by decide +kernel
theorem d_Alu_divided_45 : decode b_Alu_divided 45 = .ok (.iload_n 2, 1) := by decide +kernel
theorem d_Alu_divided_46 : decode b_Alu_divided 46 = .ok (.idiv, 1) := by decide +kernel
theorem d_Alu_divided_47 : decode b_Alu_divided 47 = .ok (.ireturn, 1) := by decide +kernel
theorem d_Alu_divided_48 : decode b_Alu_divided 48 = .ok (.iload_n 1, 1) := by decide +kernel
theorem d_Alu_divided_49 : decode b_Alu_divided 49 = .ok (.i2l, 1) := by decide +kernel
theorem d_Alu_divided_50 : decode b_Alu_divided 50 = .ok (.ldc2_w 16, 3) := by decide +kernel
theorem d_Alu_divided_53 : decode b_Alu_divided 53 = .ok (.land, 1) := by decide +kernel
theorem d_Alu_divided_54 : decode b_Alu_divided 54 = .ok (.iload_n 2, 1) := by decide +kernel
theorem d_Alu_divided_55 : decode b_Alu_divided 55 = .ok (.i2l, 1) := by decide +kernel
theorem d_Alu_divided_56 : decode b_Alu_divided 56 = .ok (.ldc2_w 16, 3) := by decide +kernel
theorem d_Alu_divided_59 : decode b_Alu_divided 59 = .ok (.land, 1) := by decide +kernel
theorem d_Alu_divided_60 : decode b_Alu_divided 60 = .ok (.ldiv, 1) := by decide +kernel
theorem d_Alu_divided_61 : decode b_Alu_divided 61 = .ok (.l2i, 1) := by decide +kernel
theorem d_Alu_divided_62 : decode b_Alu_divided 62 = .ok (.ireturn, 1) := by decide +kernel
theorem d_Alu_divided_63 : decode b_Alu_divided 63 = .ok (.iload_n 1, 1) := by decide +kernel
theorem d_Alu_divided_64 : decode b_Alu_divided 64 = .ok (.iload_n 2, 1) := by decide +kernel
theorem d_Alu_divided_65 : decode b_Alu_divided 65 = .ok (.irem, 1) := by decide +kernel
theorem d_Alu_divided_66 : decode b_Alu_divided 66 = .ok (.ireturn, 1) := by decide +kernel
theorem d_Alu_divided_67 : decode b_Alu_divided 67 = .ok (.iload_n 1, 1) := by decide +kernel
theorem d_Alu_divided_68 : decode b_Alu_divided 68 = .ok (.i2l, 1) := by decide +kernel
theorem d_Alu_divided_69 : decode b_Alu_divided 69 = .ok (.ldc2_w 16, 3) := by decide +kernel
theorem d_Alu_divided_72 : decode b_Alu_divided 72 = .ok (.land, 1) := by decide +kernel
theorem d_Alu_divided_73 : decode b_Alu_divided 73 = .ok (.iload_n 2, 1) := by decide +kernel
theorem d_Alu_divided_74 : decode b_Alu_divided 74 = .ok (.i2l, 1) := by decide +kernel
theorem d_Alu_divided_75 : decode b_Alu_divided 75 = .ok (.ldc2_w 16, 3) := by decide +kernel
theorem d_Alu_divided_78 : decode b_Alu_divided 78 = .ok (.land, 1) := by decide +kernel
theorem d_Alu_divided_79 : decode b_Alu_divided 79 = .ok (.lrem, 1) := by decide +kernel
theorem d_Alu_divided_80 : decode b_Alu_divided 80 = .ok (.l2i, 1) := by decide +kernel
theorem d_Alu_divided_81 : decode b_Alu_divided 81 = .ok (.ireturn, 1) := by decide +kernel
theorem d_Alu_branches_0 : decode b_Alu_branches 0 = .ok (.iload_n 0, 1) := by decide +kernel
theorem d_Alu_branches_1 : decode b_Alu_branches 1 = .ok (.tableswitch 93 0 6 #[43, 54, 93, 93, 65, 76, 87], 43) := by decide +kernel
theorem d_Alu_branches_44 : decode b_Alu_branches 44 = .ok (.iload_n 1, 1) := by decide +kernel
theorem d_Alu_branches_45 : decode b_Alu_branches 45 = .ok (.iload_n 2, 1) := by decide +kernel
theorem d_Alu_branches_46 : decode b_Alu_branches 46 = .ok (.if_icmp .ne 7, 3) := by decide +kernel
theorem d_Alu_branches_49 : decode b_Alu_branches 49 = .ok (.iconst 1, 1) := by decide +kernel
theorem d_Alu_branches_50 : decode b_Alu_branches 50 = .ok (.goto 4, 3) := by decide +kernel
theorem d_Alu_branches_53 : decode b_Alu_branches 53 = .ok (.iconst 0, 1) := by decide +kernel
theorem d_Alu_branches_54 : decode b_Alu_branches 54 = .ok (.ireturn, 1) := by decide +kernel
theorem d_Alu_branches_55 : decode b_Alu_branches 55 = .ok (.iload_n 1, 1) := by decide +kernel
theorem d_Alu_branches_56 : decode b_Alu_branches 56 = .ok (.iload_n 2, 1) := by decide +kernel
theorem d_Alu_branches_57 : decode b_Alu_branches 57 = .ok (.if_icmp .eq 7, 3) := by decide +kernel
theorem d_Alu_branches_60 : decode b_Alu_branches 60 = .ok (.iconst 1, 1) := by decide +kernel
theorem d_Alu_branches_61 : decode b_Alu_branches 61 = .ok (.goto 4, 3) := by decide +kernel
theorem d_Alu_branches_64 : decode b_Alu_branches 64 = .ok (.iconst 0, 1) := by decide +kernel
theorem d_Alu_branches_65 : decode b_Alu_branches 65 = .ok (.ireturn, 1) := by decide +kernel
theorem d_Alu_branches_66 : decode b_Alu_branches 66 = .ok (.iload_n 1, 1) := by decide +kernel
theorem d_Alu_branches_67 : decode b_Alu_branches 67 = .ok (.iload_n 2, 1) := by decide +kernel
theorem d_Alu_branches_68 : decode b_Alu_branches 68 = .ok (.if_icmp .ge 7, 3) := by decide +kernel
theorem d_Alu_branches_71 : decode b_Alu_branches 71 = .ok (.iconst 1, 1) := by decide +kernel
theorem d_Alu_branches_72 : decode b_Alu_branches 72 = .ok (.goto 4, 3) := by decide +kernel
theorem d_Alu_branches_75 : decode b_Alu_branches 75 = .ok (.iconst 0, 1) := by decide +kernel
theorem d_Alu_branches_76 : decode b_Alu_branches 76 = .ok (.ireturn, 1) := by decide +kernel
theorem d_Alu_branches_77 : decode b_Alu_branches 77 = .ok (.iload_n 1, 1) := by decide +kernel
theorem d_Alu_branches_78 : decode b_Alu_branches 78 = .ok (.iload_n 2, 1) := by decide +kernel
theorem d_Alu_branches_79 : decode b_Alu_branches 79 = .ok (.if_icmp .lt 7, 3) := by decide +kernel
theorem d_Alu_branches_82 : decode b_Alu_branches 82 = .ok (.iconst 1, 1) := by decide +kernel
theorem d_Alu_branches_83 : decode b_Alu_branches 83 = .ok (.goto 4, 3) := by decide +kernel
theorem d_Alu_branches_86 : decode b_Alu_branches 86 = .ok (.iconst 0, 1) := by decide +kernel
theorem d_Alu_branches_87 : decode b_Alu_branches 87 = .ok (.ireturn, 1) := by decide +kernel
theorem d_Alu_branches_88 : decode b_Alu_branches 88 = .ok (.iload_n 1, 1) := by decide +kernel
theorem d_Alu_branches_89 : decode b_Alu_branches 89 = .ok (.iload_n 2, 1) := by decide +kernel
theorem d_Alu_branches_90 : decode b_Alu_branches 90 = .ok (.invokestatic 10, 3) := by decide +kernel
theorem d_Alu_branches_93 : decode b_Alu_branches 93 = .ok (.ireturn, 1) := by decide +kernel
theorem d_Alu_branches_94 : decode b_Alu_branches 94 = .ok (.iload_n 1, 1) := by decide +kernel
theorem d_Alu_branches_95 : decode b_Alu_branches 95 = .ok (.iload_n 2, 1) := by decide +kernel
theorem d_Alu_branches_96 : decode b_Alu_branches 96 = .ok (.invokestatic 10, 3) := by decide +kernel
theorem d_Alu_branches_99 : decode b_Alu_branches 99 = .ok (.ifCond .ne 7, 3) := by decide +kernel
theorem d_Alu_branches_102 : decode b_Alu_branches 102 = .ok (.iconst 1, 1) := by decide +kernel
theorem d_Alu_branches_103 : decode b_Alu_branches 103 = .ok (.goto 4, 3) := by decide +kernel
theorem d_Alu_branches_106 : decode b_Alu_branches 106 = .ok (.iconst 0, 1) := by decide +kernel
theorem d_Alu_branches_107 : decode b_Alu_branches 107 = .ok (.ireturn, 1) := by decide +kernel
theorem d_Field_branchOffset_0 : decode b_Field_branchOffset 0 = .ok (.iload_n 0, 1) := by decide +kernel
theorem d_Field_branchOffset_1 : decode b_Field_branchOffset 1 = .ok (.bipush 31, 2) := by decide +kernel
theorem d_Field_branchOffset_3 : decode b_Field_branchOffset 3 = .ok (.ishr, 1) := by decide +kernel
theorem d_Field_branchOffset_4 : decode b_Field_branchOffset 4 = .ok (.bipush 12, 2) := by decide +kernel
theorem d_Field_branchOffset_6 : decode b_Field_branchOffset 6 = .ok (.ishl, 1) := by decide +kernel
theorem d_Field_branchOffset_7 : decode b_Field_branchOffset 7 = .ok (.iload_n 0, 1) := by decide +kernel
theorem d_Field_branchOffset_8 : decode b_Field_branchOffset 8 = .ok (.bipush 25, 2) := by decide +kernel
theorem d_Field_branchOffset_10 : decode b_Field_branchOffset 10 = .ok (.iushr, 1) := by decide +kernel
theorem d_Field_branchOffset_11 : decode b_Field_branchOffset 11 = .ok (.bipush 63, 2) := by decide +kernel
theorem d_Field_branchOffset_13 : decode b_Field_branchOffset 13 = .ok (.iand, 1) := by decide +kernel
theorem d_Field_branchOffset_14 : decode b_Field_branchOffset 14 = .ok (.iconst 5, 1) := by decide +kernel
theorem d_Field_branchOffset_15 : decode b_Field_branchOffset 15 = .ok (.ishl, 1) := by decide +kernel
theorem d_Field_branchOffset_16 : decode b_Field_branchOffset 16 = .ok (.ior, 1) := by decide +kernel
theorem d_Field_branchOffset_17 : decode b_Field_branchOffset 17 = .ok (.iload_n 0, 1) := by decide +kernel
theorem d_Field_branchOffset_18 : decode b_Field_branchOffset 18 = .ok (.bipush 8, 2) := by decide +kernel
theorem d_Field_branchOffset_20 : decode b_Field_branchOffset 20 = .ok (.iushr, 1) := by decide +kernel
theorem d_Field_branchOffset_21 : decode b_Field_branchOffset 21 = .ok (.bipush 15, 2) := by decide +kernel
theorem d_Field_branchOffset_23 : decode b_Field_branchOffset 23 = .ok (.iand, 1) := by decide +kernel
theorem d_Field_branchOffset_24 : decode b_Field_branchOffset 24 = .ok (.iconst 1, 1) := by decide +kernel
theorem d_Field_branchOffset_25 : decode b_Field_branchOffset 25 = .ok (.ishl, 1) := by decide +kernel
theorem d_Field_branchOffset_26 : decode b_Field_branchOffset 26 = .ok (.ior, 1) := by decide +kernel
theorem d_Field_branchOffset_27 : decode b_Field_branchOffset 27 = .ok (.iload_n 0, 1) := by decide +kernel
theorem d_Field_branchOffset_28 : decode b_Field_branchOffset 28 = .ok (.bipush 7, 2) := by decide +kernel
theorem d_Field_branchOffset_30 : decode b_Field_branchOffset 30 = .ok (.iushr, 1) := by decide +kernel
theorem d_Field_branchOffset_31 : decode b_Field_branchOffset 31 = .ok (.iconst 1, 1) := by decide +kernel
theorem d_Field_branchOffset_32 : decode b_Field_branchOffset 32 = .ok (.iand, 1) := by decide +kernel
theorem d_Field_branchOffset_33 : decode b_Field_branchOffset 33 = .ok (.bipush 11, 2) := by decide +kernel
theorem d_Field_branchOffset_35 : decode b_Field_branchOffset 35 = .ok (.ishl, 1) := by decide +kernel
theorem d_Field_branchOffset_36 : decode b_Field_branchOffset 36 = .ok (.ior, 1) := by decide +kernel
theorem d_Field_branchOffset_37 : decode b_Field_branchOffset 37 = .ok (.ireturn, 1) := by decide +kernel
theorem d_Field_jumpOffset_0 : decode b_Field_jumpOffset 0 = .ok (.iload_n 0, 1) := by decide +kernel
theorem d_Field_jumpOffset_1 : decode b_Field_jumpOffset 1 = .ok (.bipush 31, 2) := by decide +kernel
theorem d_Field_jumpOffset_3 : decode b_Field_jumpOffset 3 = .ok (.ishr, 1) := by decide +kernel
theorem d_Field_jumpOffset_4 : decode b_Field_jumpOffset 4 = .ok (.bipush 20, 2) := by decide +kernel
theorem d_Field_jumpOffset_6 : decode b_Field_jumpOffset 6 = .ok (.ishl, 1) := by decide +kernel
theorem d_Field_jumpOffset_7 : decode b_Field_jumpOffset 7 = .ok (.iload_n 0, 1) := by decide +kernel
theorem d_Field_jumpOffset_8 : decode b_Field_jumpOffset 8 = .ok (.bipush 21, 2) := by decide +kernel
theorem d_Field_jumpOffset_10 : decode b_Field_jumpOffset 10 = .ok (.iushr, 1) := by decide +kernel
theorem d_Field_jumpOffset_11 : decode b_Field_jumpOffset 11 = .ok (.sipush 1023, 3) := by decide +kernel
theorem d_Field_jumpOffset_14 : decode b_Field_jumpOffset 14 = .ok (.iand, 1) := by decide +kernel
theorem d_Field_jumpOffset_15 : decode b_Field_jumpOffset 15 = .ok (.iconst 1, 1) := by decide +kernel
theorem d_Field_jumpOffset_16 : decode b_Field_jumpOffset 16 = .ok (.ishl, 1) := by decide +kernel
theorem d_Field_jumpOffset_17 : decode b_Field_jumpOffset 17 = .ok (.ior, 1) := by decide +kernel
theorem d_Field_jumpOffset_18 : decode b_Field_jumpOffset 18 = .ok (.iload_n 0, 1) := by decide +kernel
theorem d_Field_jumpOffset_19 : decode b_Field_jumpOffset 19 = .ok (.bipush 20, 2) := by decide +kernel
theorem d_Field_jumpOffset_21 : decode b_Field_jumpOffset 21 = .ok (.iushr, 1) := by decide +kernel
theorem d_Field_jumpOffset_22 : decode b_Field_jumpOffset 22 = .ok (.iconst 1, 1) := by decide +kernel
theorem d_Field_jumpOffset_23 : decode b_Field_jumpOffset 23 = .ok (.iand, 1) := by decide +kernel
theorem d_Field_jumpOffset_24 : decode b_Field_jumpOffset 24 = .ok (.bipush 11, 2) := by decide +kernel
theorem d_Field_jumpOffset_26 : decode b_Field_jumpOffset 26 = .ok (.ishl, 1) := by decide +kernel
theorem d_Field_jumpOffset_27 : decode b_Field_jumpOffset 27 = .ok (.ior, 1) := by decide +kernel
theorem d_Field_jumpOffset_28 : decode b_Field_jumpOffset 28 = .ok (.iload_n 0, 1) := by decide +kernel
theorem d_Field_jumpOffset_29 : decode b_Field_jumpOffset 29 = .ok (.ldc 13, 2) := by decide +kernel
theorem d_Field_jumpOffset_31 : decode b_Field_jumpOffset 31 = .ok (.iand, 1) := by decide +kernel
theorem d_Field_jumpOffset_32 : decode b_Field_jumpOffset 32 = .ok (.ior, 1) := by decide +kernel
theorem d_Field_jumpOffset_33 : decode b_Field_jumpOffset 33 = .ok (.ireturn, 1) := by decide +kernel
end
section
-- ===== small facts that the walks ask for =====
theorem lw_ne {b : Int32} (h : ¬ b = 0) : ¬ (b.toInt64 &&& 4294967295) = 0 := by
  intro q
  apply h
  have e : (b.toInt64 &&& 4294967295).toBitVec = 0#64 := by rw [q]; rfl
  have e1 : (b.toBitVec.signExtend 64 &&& 4294967295#64) = 0#64 := e
  apply Int32.toBitVec_inj.mp
  show b.toBitVec = 0#32
  apply BitVec.eq_of_getLsbD_eq
  intro i hi
  have e2 := congrArg (fun z => BitVec.getLsbD z i) e1
  simp only [BitVec.getLsbD_and, BitVec.getLsbD_signExtend] at e2
  have h3 : (4294967295#64).getLsbD i = true := by
    have : ∀ j : Fin 32, (4294967295#64).getLsbD j.val = true := by decide
    exact this ⟨i, hi⟩
  have h4 : i < 64 := by omega
  rw [h3] at e2
  simp [h4, hi] at e2 ⊢
  exact e2
theorem vp_01 {x : Int32} {n : Nat} (h : x = 0 ∨ x = 1) (hn : 2 ≤ n) : vp_in x n := by
  rcases h with rfl | rfl
  · rw [vp_in_iff]; refine ⟨by decide, ?_⟩
    show (0 : Int) < n; omega
  · rw [vp_in_iff]; refine ⟨by decide, ?_⟩
    show (1 : Int) < n; omega
theorem vp_cmp {x : Int32} (h : x = 0 ∨ x = 1) : vp_in (2 + 2 * x) 8 ∧ vp_in (2 + 2 * x + 1) 8 := by
  rcases h with rfl | rfl <;> (unfold vp_in; decide)
theorem vp_pr {x : Int32} (h : 0 ≤ x) (h2 : ¬ 256 ≤ x) : vp_in x 256 := by
  rw [vp_in_iff]
  rw [Int32.le_iff_toInt_le] at h h2
  have e0 : (0 : Int32).toInt = 0 := rfl
  have e1 : (256 : Int32).toInt = 256 := rfl
  omega
theorem az_ramAlone (i : Nat) : aF_ramAlone.getD i 0 = 0 ∨ aF_ramAlone.getD i 0 = 1 := by
  rcases i with _ | _ | _ | _ | _ | i <;> first | exact Or.inl rfl | exact Or.inr rfl
theorem az_stores (i : Nat) : aF_stores.getD i 0 = 0 ∨ aF_stores.getD i 0 = 1 := by
  rcases i with _ | _ | _ | _ | _ | i <;> first | exact Or.inl rfl | exact Or.inr rfl
end
section
def sp_Alu_below (x0 : Int32) (x1 : Int32)  : Int32 :=
  if (x1 ^^^ (-2147483648)) ≤ (x0 ^^^ (-2147483648)) then
    0
  else
    1
set_option maxHeartbeats 4000000 in
set_option maxRecDepth 100000 in
theorem c_Alu_below {l : Launch} {D : va_G} {g : Nat → Nat}  (x0 : Int32) (x1 : Int32)   : CT l D g y_Alu_below b_Alu_below 2 (some .boolean) (rD 0) [.int x0, .int x1] ([]) ([]) (Qi D (fun (r : Int32) (_ : Unit) => sp_Alu_below x0 x1 = r ∧ (r = 0 ∨ r = 1)) (fun _ => [])) := by
  refine CT.of rfl (Nat.le_of_ble_eq_true rfl) (fun p e s m below meth c A ls hx hb hr hml hts hown hlocks hA hP hK hD hF hS hl => ?_)
  have hl : lv_has ls 2 [(0, .int x0), (1, .int x1)] := hl
  refine lv_iload_n hx hb d_Alu_below_0 rfl (lv_at hl 0 rfl) ?_
  refine lv_ldc (v := (-2147483648)) hx hb hown (hts _ k_29) d_Alu_below_1 ?_
  refine lv_ixor hx hb d_Alu_below_3 ?_
  refine lv_iload_n hx hb d_Alu_below_4 rfl (lv_at hl 1 rfl) ?_
  refine lv_ldc (v := (-2147483648)) hx hb hown (hts _ k_29) d_Alu_below_5 ?_
  refine lv_ixor hx hb d_Alu_below_7 ?_
  refine lv_icmp_ge (tgt := 15) hx hb d_Alu_below_8 (by decide) (fun c_1 => ?_) (fun c_1 => ?_)
  · refine lv_iconst (v := 0) hx hb d_Alu_below_15 rfl ?_
    exact rz () hx hb hr hlocks rfl hP hD hS d_Alu_below_16 ⟨by simp only [sp_Alu_below, if_pos c_1], Or.inl rfl⟩
  · refine lv_iconst (v := 1) hx hb d_Alu_below_11 rfl ?_
    refine lv_goto (tgt := 16) hx hb d_Alu_below_12 (by decide) ?_
    exact rz () hx hb hr hlocks rfl hP hD hS d_Alu_below_16 ⟨by simp only [sp_Alu_below, if_neg c_1], Or.inr rfl⟩
def sp_Fault_of (x0 : Int32)  : Int64 :=
  (-1) - x0.toInt64
set_option maxHeartbeats 4000000 in
set_option maxRecDepth 100000 in
theorem c_Fault_of {l : Launch} {D : va_G} {g : Nat → Nat}  (x0 : Int32)   : CT l D g y_Fault_of b_Fault_of 1 (some .long) (rD 0) [.int x0] ([]) ([]) (Ql D (fun (r : Int64) (_ : Unit) => sp_Fault_of x0 = r) (fun _ => [])) := by
  refine CT.of rfl (Nat.le_of_ble_eq_true rfl) (fun p e s m below meth c A ls hx hb hr hml hts hown hlocks hA hP hK hD hF hS hl => ?_)
  have hl : lv_has ls 1 [(0, .int x0)] := hl
  refine lv_ldc2 (v := (-1)) hx hb hown (hts _ k_37) d_Fault_of_0 ?_
  refine lv_iload_n hx hb d_Fault_of_3 rfl (lv_at hl 0 rfl) ?_
  refine lv_i2l hx hb d_Fault_of_4 rfl ?_
  refine lv_lsub hx hb d_Fault_of_5 ?_
  exact rl () hx hb hr hlocks hP hD hS d_Fault_of_6 (by simp only [sp_Fault_of])
def sp_Fault_causeOf (x0 : Int64)  : Int32 :=
  ((-1) - x0).toInt32
set_option maxHeartbeats 4000000 in
set_option maxRecDepth 100000 in
theorem c_Fault_causeOf {l : Launch} {D : va_G} {g : Nat → Nat}  (x0 : Int64)   : CT l D g y_Fault_causeOf b_Fault_causeOf 2 (some .int) (rD 0) [.long x0] ([]) ([]) (Qi D (fun (r : Int32) (_ : Unit) => sp_Fault_causeOf x0 = r) (fun _ => [])) := by
  refine CT.of rfl (Nat.le_of_ble_eq_true rfl) (fun p e s m below meth c A ls hx hb hr hml hts hown hlocks hA hP hK hD hF hS hl => ?_)
  have hl : lv_has ls 2 [(0, .long x0)] := hl
  refine lv_ldc2 (v := (-1)) hx hb hown (hts _ k_37) d_Fault_causeOf_0 ?_
  refine lv_lload_n hx hb d_Fault_causeOf_3 rfl (lv_at hl 0 rfl) ?_
  refine lv_lsub hx hb d_Fault_causeOf_4 ?_
  refine lv_l2i hx hb d_Fault_causeOf_5 rfl ?_
  exact ri () hx hb hr hlocks hP hD hS d_Fault_causeOf_6 (by simp only [sp_Fault_causeOf])
def sp_Field_f3 (x0 : Int32)  : Int32 :=
  (ush x0 12) &&& 7
set_option maxHeartbeats 4000000 in
set_option maxRecDepth 100000 in
theorem c_Field_f3 {l : Launch} {D : va_G} {g : Nat → Nat}  (x0 : Int32)   : CT l D g y_Field_f3 b_Field_f3 1 (some .int) (rD 0) [.int x0] ([]) ([]) (Qi D (fun (r : Int32) (_ : Unit) => sp_Field_f3 x0 = r) (fun _ => [])) := by
  refine CT.of rfl (Nat.le_of_ble_eq_true rfl) (fun p e s m below meth c A ls hx hb hr hml hts hown hlocks hA hP hK hD hF hS hl => ?_)
  have hl : lv_has ls 1 [(0, .int x0)] := hl
  refine lv_iload_n hx hb d_Field_f3_0 rfl (lv_at hl 0 rfl) ?_
  refine lv_bipush (v := 12) hx hb d_Field_f3_1 rfl ?_
  refine lv_iushr (v := ush x0 12) hx hb d_Field_f3_3 rfl ?_
  refine lv_bipush (v := 7) hx hb d_Field_f3_4 rfl ?_
  refine lv_iand hx hb d_Field_f3_6 ?_
  exact ri () hx hb hr hlocks hP hD hS d_Field_f3_7 (by simp only [sp_Field_f3])
def sp_Field_rs1 (x0 : Int32)  : Int32 :=
  (ush x0 15) &&& 31
set_option maxHeartbeats 4000000 in
set_option maxRecDepth 100000 in
theorem c_Field_rs1 {l : Launch} {D : va_G} {g : Nat → Nat}  (x0 : Int32)   : CT l D g y_Field_rs1 b_Field_rs1 1 (some .int) (rD 0) [.int x0] ([]) ([]) (Qi D (fun (r : Int32) (_ : Unit) => sp_Field_rs1 x0 = r) (fun _ => [])) := by
  refine CT.of rfl (Nat.le_of_ble_eq_true rfl) (fun p e s m below meth c A ls hx hb hr hml hts hown hlocks hA hP hK hD hF hS hl => ?_)
  have hl : lv_has ls 1 [(0, .int x0)] := hl
  refine lv_iload_n hx hb d_Field_rs1_0 rfl (lv_at hl 0 rfl) ?_
  refine lv_bipush (v := 15) hx hb d_Field_rs1_1 rfl ?_
  refine lv_iushr (v := ush x0 15) hx hb d_Field_rs1_3 rfl ?_
  refine lv_bipush (v := 31) hx hb d_Field_rs1_4 rfl ?_
  refine lv_iand hx hb d_Field_rs1_6 ?_
  exact ri () hx hb hr hlocks hP hD hS d_Field_rs1_7 (by simp only [sp_Field_rs1])
def sp_Field_immediate (x0 : Int32)  : Int32 :=
  x0 >>> (20 &&& 31)
set_option maxHeartbeats 4000000 in
set_option maxRecDepth 100000 in
theorem c_Field_immediate {l : Launch} {D : va_G} {g : Nat → Nat}  (x0 : Int32)   : CT l D g y_Field_immediate b_Field_immediate 1 (some .int) (rD 0) [.int x0] ([]) ([]) (Qi D (fun (r : Int32) (_ : Unit) => sp_Field_immediate x0 = r) (fun _ => [])) := by
  refine CT.of rfl (Nat.le_of_ble_eq_true rfl) (fun p e s m below meth c A ls hx hb hr hml hts hown hlocks hA hP hK hD hF hS hl => ?_)
  have hl : lv_has ls 1 [(0, .int x0)] := hl
  refine lv_iload_n hx hb d_Field_immediate_0 rfl (lv_at hl 0 rfl) ?_
  refine lv_bipush (v := 20) hx hb d_Field_immediate_1 rfl ?_
  refine lv_ishr hx hb d_Field_immediate_3 ?_
  exact ri () hx hb hr hlocks hP hD hS d_Field_immediate_4 (by simp only [sp_Field_immediate])
def sp_Field_rd (x0 : Int32)  : Int32 :=
  (ush x0 7) &&& 31
set_option maxHeartbeats 4000000 in
set_option maxRecDepth 100000 in
theorem c_Field_rd {l : Launch} {D : va_G} {g : Nat → Nat}  (x0 : Int32)   : CT l D g y_Field_rd b_Field_rd 1 (some .int) (rD 0) [.int x0] ([]) ([]) (Qi D (fun (r : Int32) (_ : Unit) => sp_Field_rd x0 = r) (fun _ => [])) := by
  refine CT.of rfl (Nat.le_of_ble_eq_true rfl) (fun p e s m below meth c A ls hx hb hr hml hts hown hlocks hA hP hK hD hF hS hl => ?_)
  have hl : lv_has ls 1 [(0, .int x0)] := hl
  refine lv_iload_n hx hb d_Field_rd_0 rfl (lv_at hl 0 rfl) ?_
  refine lv_bipush (v := 7) hx hb d_Field_rd_1 rfl ?_
  refine lv_iushr (v := ush x0 7) hx hb d_Field_rd_3 rfl ?_
  refine lv_bipush (v := 31) hx hb d_Field_rd_4 rfl ?_
  refine lv_iand hx hb d_Field_rd_6 ?_
  exact ri () hx hb hr hlocks hP hD hS d_Field_rd_7 (by simp only [sp_Field_rd])
def sp_Field_f7 (x0 : Int32)  : Int32 :=
  ush x0 25
set_option maxHeartbeats 4000000 in
set_option maxRecDepth 100000 in
theorem c_Field_f7 {l : Launch} {D : va_G} {g : Nat → Nat}  (x0 : Int32)   : CT l D g y_Field_f7 b_Field_f7 1 (some .int) (rD 0) [.int x0] ([]) ([]) (Qi D (fun (r : Int32) (_ : Unit) => sp_Field_f7 x0 = r) (fun _ => [])) := by
  refine CT.of rfl (Nat.le_of_ble_eq_true rfl) (fun p e s m below meth c A ls hx hb hr hml hts hown hlocks hA hP hK hD hF hS hl => ?_)
  have hl : lv_has ls 1 [(0, .int x0)] := hl
  refine lv_iload_n hx hb d_Field_f7_0 rfl (lv_at hl 0 rfl) ?_
  refine lv_bipush (v := 25) hx hb d_Field_f7_1 rfl ?_
  refine lv_iushr (v := ush x0 25) hx hb d_Field_f7_3 rfl ?_
  exact ri () hx hb hr hlocks hP hD hS d_Field_f7_4 (by simp only [sp_Field_f7])
def sp_Field_rs2 (x0 : Int32)  : Int32 :=
  (ush x0 20) &&& 31
set_option maxHeartbeats 4000000 in
set_option maxRecDepth 100000 in
theorem c_Field_rs2 {l : Launch} {D : va_G} {g : Nat → Nat}  (x0 : Int32)   : CT l D g y_Field_rs2 b_Field_rs2 1 (some .int) (rD 0) [.int x0] ([]) ([]) (Qi D (fun (r : Int32) (_ : Unit) => sp_Field_rs2 x0 = r) (fun _ => [])) := by
  refine CT.of rfl (Nat.le_of_ble_eq_true rfl) (fun p e s m below meth c A ls hx hb hr hml hts hown hlocks hA hP hK hD hF hS hl => ?_)
  have hl : lv_has ls 1 [(0, .int x0)] := hl
  refine lv_iload_n hx hb d_Field_rs2_0 rfl (lv_at hl 0 rfl) ?_
  refine lv_bipush (v := 20) hx hb d_Field_rs2_1 rfl ?_
  refine lv_iushr (v := ush x0 20) hx hb d_Field_rs2_3 rfl ?_
  refine lv_bipush (v := 31) hx hb d_Field_rs2_4 rfl ?_
  refine lv_iand hx hb d_Field_rs2_6 ?_
  exact ri () hx hb hr hlocks hP hD hS d_Field_rs2_7 (by simp only [sp_Field_rs2])
def sp_Alu_plain (x0 : Int32) (x1 : Int32) (x2 : Int32)  : Int32 :=
  if x0 = 0 then
    x1 + x2
  else
    if x0 = 1 then
      x1 <<< ((x2 &&& 31) &&& 31)
    else
      if x0 = 2 then
        if x2 ≤ x1 then
          0
        else
          1
      else
        if x0 = 3 then
          if (sp_Alu_below x1 x2) = 0 then
            0
          else
            1
        else
          if x0 = 4 then
            x1 ^^^ x2
          else
            if x0 = 5 then
              ush x1 (x2 &&& 31)
            else
              if x0 = 6 then
                x1 ||| x2
              else
                x1 &&& x2
set_option maxHeartbeats 4000000 in
set_option maxRecDepth 100000 in
theorem c_Alu_plain {l : Launch} {D : va_G} {g : Nat → Nat}  (x0 : Int32) (x1 : Int32) (x2 : Int32)   : CT l D g y_Alu_plain b_Alu_plain 3 (some .int) (rD 1) [.int x0, .int x1, .int x2] ([]) ([]) (Qi D (fun (r : Int32) (_ : Unit) => sp_Alu_plain x0 x1 x2 = r) (fun _ => [])) := by
  refine CT.of rfl (Nat.le_of_ble_eq_true rfl) (fun p e s m below meth c A ls hx hb hr hml hts hown hlocks hA hP hK hD hF hS hl => ?_)
  have hl : lv_has ls 3 [(0, .int x0), (1, .int x1), (2, .int x2)] := hl
  refine lv_iload_n hx hb d_Alu_plain_0 rfl (lv_at hl 0 rfl) ?_
  by_cases c_1 : x0 = 0
  · refine lv_tableIn (off := 43) (tgt := 44) hx hb d_Alu_plain_1 (by rw [c_1]; decide) (by rw [c_1]; decide) (by rw [c_1]; rfl) (by decide) ?_
    refine lv_iload_n hx hb d_Alu_plain_44 rfl (lv_at hl 1 rfl) ?_
    refine lv_iload_n hx hb d_Alu_plain_45 rfl (lv_at hl 2 rfl) ?_
    refine lv_iadd hx hb d_Alu_plain_46 ?_
    exact ri () hx hb hr hlocks hP hD hS d_Alu_plain_47 (by simp only [sp_Alu_plain, if_pos c_1])
  · by_cases c_2 : x0 = 1
    · refine lv_tableIn (off := 47) (tgt := 48) hx hb d_Alu_plain_1 (by rw [c_2]; decide) (by rw [c_2]; decide) (by rw [c_2]; rfl) (by decide) ?_
      refine lv_iload_n hx hb d_Alu_plain_48 rfl (lv_at hl 1 rfl) ?_
      refine lv_iload_n hx hb d_Alu_plain_49 rfl (lv_at hl 2 rfl) ?_
      refine lv_bipush (v := 31) hx hb d_Alu_plain_50 rfl ?_
      refine lv_iand hx hb d_Alu_plain_52 ?_
      refine lv_ishl hx hb d_Alu_plain_53 ?_
      exact ri () hx hb hr hlocks hP hD hS d_Alu_plain_54 (by simp only [sp_Alu_plain, if_neg c_1, if_pos c_2])
    · by_cases c_3 : x0 = 2
      · refine lv_tableIn (off := 54) (tgt := 55) hx hb d_Alu_plain_1 (by rw [c_3]; decide) (by rw [c_3]; decide) (by rw [c_3]; rfl) (by decide) ?_
        refine lv_iload_n hx hb d_Alu_plain_55 rfl (lv_at hl 1 rfl) ?_
        refine lv_iload_n hx hb d_Alu_plain_56 rfl (lv_at hl 2 rfl) ?_
        refine lv_icmp_ge (tgt := 64) hx hb d_Alu_plain_57 (by decide) (fun c_4 => ?_) (fun c_4 => ?_)
        · refine lv_iconst (v := 0) hx hb d_Alu_plain_64 rfl ?_
          exact ri () hx hb hr hlocks hP hD hS d_Alu_plain_65 (by simp only [sp_Alu_plain, if_neg c_1, if_neg c_2, if_pos c_3, if_pos c_4])
        · refine lv_iconst (v := 1) hx hb d_Alu_plain_60 rfl ?_
          refine lv_goto (tgt := 65) hx hb d_Alu_plain_61 (by decide) ?_
          exact ri () hx hb hr hlocks hP hD hS d_Alu_plain_65 (by simp only [sp_Alu_plain, if_neg c_1, if_neg c_2, if_pos c_3, if_neg c_4])
      · by_cases c_5 : x0 = 3
        · refine lv_tableIn (off := 65) (tgt := 66) hx hb d_Alu_plain_1 (by rw [c_5]; decide) (by rw [c_5]; decide) (by rw [c_5]; rfl) (by decide) ?_
          refine lv_iload_n hx hb d_Alu_plain_66 rfl (lv_at hl 1 rfl) ?_
          refine lv_iload_n hx hb d_Alu_plain_67 rfl (lv_at hl 2 rfl) ?_
          refine xi (wr := []) (W2 := fun _ => []) (xS (rest := []) ⟨hx, hb, hml, hown, hts⟩ (c_Alu_below x1 x2) mw_Alu_below ms_Alu_below k_97 ⟨rfl, rfl, Nat.le_of_ble_eq_true rfl, Nat.le_of_ble_eq_true rfl⟩ hK hP hD hS hA hF [] [] rfl rfl rfl rfl hl.1 rfl (Nat.le_of_ble_eq_true rfl) d_Alu_plain_68 ⟨Nat.zero_le _, Nat.zero_le _⟩) hP hD hS hA [] [] [] rfl rfl rfl (by decide) (fun _ => rfl) rfl (fun r_6 _ H locs h_6 hP hD hS => ?_)
          obtain ⟨h_6, z_6⟩ := h_6
          subst h_6
          refine lv_if_eq (tgt := 78) hx hb d_Alu_plain_71 (by decide) (fun c_7 => ?_) (fun c_7 => ?_)
          · refine lv_iconst (v := 0) hx hb d_Alu_plain_78 rfl ?_
            exact ri () hx hb hr hlocks hP hD hS d_Alu_plain_79 (by simp only [sp_Alu_plain, if_neg c_1, if_neg c_2, if_neg c_3, if_pos c_5, if_pos c_7])
          · refine lv_iconst (v := 1) hx hb d_Alu_plain_74 rfl ?_
            refine lv_goto (tgt := 79) hx hb d_Alu_plain_75 (by decide) ?_
            exact ri () hx hb hr hlocks hP hD hS d_Alu_plain_79 (by simp only [sp_Alu_plain, if_neg c_1, if_neg c_2, if_neg c_3, if_pos c_5, if_neg c_7])
        · by_cases c_8 : x0 = 4
          · refine lv_tableIn (off := 79) (tgt := 80) hx hb d_Alu_plain_1 (by rw [c_8]; decide) (by rw [c_8]; decide) (by rw [c_8]; rfl) (by decide) ?_
            refine lv_iload_n hx hb d_Alu_plain_80 rfl (lv_at hl 1 rfl) ?_
            refine lv_iload_n hx hb d_Alu_plain_81 rfl (lv_at hl 2 rfl) ?_
            refine lv_ixor hx hb d_Alu_plain_82 ?_
            exact ri () hx hb hr hlocks hP hD hS d_Alu_plain_83 (by simp only [sp_Alu_plain, if_neg c_1, if_neg c_2, if_neg c_3, if_neg c_5, if_pos c_8])
          · by_cases c_9 : x0 = 5
            · refine lv_tableIn (off := 83) (tgt := 84) hx hb d_Alu_plain_1 (by rw [c_9]; decide) (by rw [c_9]; decide) (by rw [c_9]; rfl) (by decide) ?_
              refine lv_iload_n hx hb d_Alu_plain_84 rfl (lv_at hl 1 rfl) ?_
              refine lv_iload_n hx hb d_Alu_plain_85 rfl (lv_at hl 2 rfl) ?_
              refine lv_bipush (v := 31) hx hb d_Alu_plain_86 rfl ?_
              refine lv_iand hx hb d_Alu_plain_88 ?_
              refine lv_iushr (v := ush x1 (x2 &&& 31)) hx hb d_Alu_plain_89 rfl ?_
              exact ri () hx hb hr hlocks hP hD hS d_Alu_plain_90 (by simp only [sp_Alu_plain, if_neg c_1, if_neg c_2, if_neg c_3, if_neg c_5, if_neg c_8, if_pos c_9])
            · by_cases c_10 : x0 = 6
              · refine lv_tableIn (off := 90) (tgt := 91) hx hb d_Alu_plain_1 (by rw [c_10]; decide) (by rw [c_10]; decide) (by rw [c_10]; rfl) (by decide) ?_
                refine lv_iload_n hx hb d_Alu_plain_91 rfl (lv_at hl 1 rfl) ?_
                refine lv_iload_n hx hb d_Alu_plain_92 rfl (lv_at hl 2 rfl) ?_
                refine lv_ior hx hb d_Alu_plain_93 ?_
                exact ri () hx hb hr hlocks hP hD hS d_Alu_plain_94 (by simp only [sp_Alu_plain, if_neg c_1, if_neg c_2, if_neg c_3, if_neg c_5, if_neg c_8, if_neg c_9, if_pos c_10])
              · refine lv_tableOut (tgt := 95) hx hb d_Alu_plain_1 (by have := lv_neT (a := 0) c_1 rfl; have := lv_neT (a := 1) c_2 rfl; have := lv_neT (a := 2) c_3 rfl; have := lv_neT (a := 3) c_5 rfl; have := lv_neT (a := 4) c_8 rfl; have := lv_neT (a := 5) c_9 rfl; have := lv_neT (a := 6) c_10 rfl; omega) (by decide) ?_
                refine lv_iload_n hx hb d_Alu_plain_95 rfl (lv_at hl 1 rfl) ?_
                refine lv_iload_n hx hb d_Alu_plain_96 rfl (lv_at hl 2 rfl) ?_
                refine lv_iand hx hb d_Alu_plain_97 ?_
                exact ri () hx hb hr hlocks hP hD hS d_Alu_plain_98 (by simp only [sp_Alu_plain, if_neg c_1, if_neg c_2, if_neg c_3, if_neg c_5, if_neg c_8, if_neg c_9, if_neg c_10])
def sp_Field_upper (x0 : Int32)  : Int32 :=
  x0 &&& (-4096)
set_option maxHeartbeats 4000000 in
set_option maxRecDepth 100000 in
theorem c_Field_upper {l : Launch} {D : va_G} {g : Nat → Nat}  (x0 : Int32)   : CT l D g y_Field_upper b_Field_upper 1 (some .int) (rD 0) [.int x0] ([]) ([]) (Qi D (fun (r : Int32) (_ : Unit) => sp_Field_upper x0 = r) (fun _ => [])) := by
  refine CT.of rfl (Nat.le_of_ble_eq_true rfl) (fun p e s m below meth c A ls hx hb hr hml hts hown hlocks hA hP hK hD hF hS hl => ?_)
  have hl : lv_has ls 1 [(0, .int x0)] := hl
  refine lv_iload_n hx hb d_Field_upper_0 rfl (lv_at hl 0 rfl) ?_
  refine lv_sipush (v := (-4096)) hx hb d_Field_upper_1 rfl ?_
  refine lv_iand hx hb d_Field_upper_4 ?_
  exact ri () hx hb hr hlocks hP hD hS d_Field_upper_5 (by simp only [sp_Field_upper])
def sp_Field_storeOffset (x0 : Int32)  : Int32 :=
  ((x0 >>> (25 &&& 31)) <<< (5 &&& 31)) ||| (sp_Field_rd x0)
set_option maxHeartbeats 4000000 in
set_option maxRecDepth 100000 in
theorem c_Field_storeOffset {l : Launch} {D : va_G} {g : Nat → Nat}  (x0 : Int32)   : CT l D g y_Field_storeOffset b_Field_storeOffset 1 (some .int) (rD 1) [.int x0] ([]) ([]) (Qi D (fun (r : Int32) (_ : Unit) => sp_Field_storeOffset x0 = r) (fun _ => [])) := by
  refine CT.of rfl (Nat.le_of_ble_eq_true rfl) (fun p e s m below meth c A ls hx hb hr hml hts hown hlocks hA hP hK hD hF hS hl => ?_)
  have hl : lv_has ls 1 [(0, .int x0)] := hl
  refine lv_iload_n hx hb d_Field_storeOffset_0 rfl (lv_at hl 0 rfl) ?_
  refine lv_bipush (v := 25) hx hb d_Field_storeOffset_1 rfl ?_
  refine lv_ishr hx hb d_Field_storeOffset_3 ?_
  refine lv_iconst (v := 5) hx hb d_Field_storeOffset_4 rfl ?_
  refine lv_ishl hx hb d_Field_storeOffset_5 ?_
  refine lv_iload_n hx hb d_Field_storeOffset_6 rfl (lv_at hl 0 rfl) ?_
  refine xi (wr := []) (W2 := fun _ => []) (xS (rest := [.int ((x0 >>> (25 &&& 31)) <<< (5 &&& 31))]) ⟨hx, hb, hml, hown, hts⟩ (c_Field_rd x0) mw_Field_rd ms_Field_rd k_101 ⟨rfl, rfl, Nat.le_of_ble_eq_true rfl, Nat.le_of_ble_eq_true rfl⟩ hK hP hD hS hA hF [] [] rfl rfl rfl rfl hl.1 rfl (Nat.le_of_ble_eq_true rfl) d_Field_storeOffset_7 ⟨Nat.zero_le _, Nat.zero_le _⟩) hP hD hS hA [] [] [] rfl rfl rfl (by decide) (fun _ => rfl) rfl (fun r_1 _ H locs h_1 hP hD hS => ?_)
  subst h_1
  refine lv_ior hx hb d_Field_storeOffset_10 ?_
  exact ri () hx hb hr hlocks hP hD hS d_Field_storeOffset_11 (by simp only [sp_Field_storeOffset])
def sp_Alu_changed (x0 : Int32) (x1 : Int32) (x2 : Int32)  : Int32 :=
  if x0 = 0 then
    x1 + x2
  else
    if x0 = 1 then
      x2
    else
      if x0 = 2 then
        x2
      else
        if x0 = 3 then
          x2
        else
          if x0 = 4 then
            x1 ^^^ x2
          else
            if x0 = 5 then
              x2
            else
              if x0 = 6 then
                x2
              else
                if x0 = 7 then
                  x2
                else
                  if x0 = 8 then
                    x1 ||| x2
                  else
                    if x0 = 9 then
                      x2
                    else
                      if x0 = 10 then
                        x2
                      else
                        if x0 = 11 then
                          x2
                        else
                          if x0 = 12 then
                            x1 &&& x2
                          else
                            if x0 = 13 then
                              x2
                            else
                              if x0 = 14 then
                                x2
                              else
                                if x0 = 15 then
                                  x2
                                else
                                  if x0 = 16 then
                                    if x2 < x1 then x2 else x1
                                  else
                                    if x0 = 17 then
                                      x2
                                    else
                                      if x0 = 18 then
                                        x2
                                      else
                                        if x0 = 19 then
                                          x2
                                        else
                                          if x0 = 20 then
                                            if x1 < x2 then x2 else x1
                                          else
                                            if x0 = 21 then
                                              x2
                                            else
                                              if x0 = 22 then
                                                x2
                                              else
                                                if x0 = 23 then
                                                  x2
                                                else
                                                  if x0 = 24 then
                                                    if (sp_Alu_below x1 x2) = 0 then
                                                      x2
                                                    else
                                                      x1
                                                  else
                                                    if x0 = 25 then
                                                      x2
                                                    else
                                                      if x0 = 26 then
                                                        x2
                                                      else
                                                        if x0 = 27 then
                                                          x2
                                                        else
                                                          if x0 = 28 then
                                                            if (sp_Alu_below x1 x2) = 0 then
                                                              x1
                                                            else
                                                              x2
                                                          else
                                                            x2
set_option maxHeartbeats 4000000 in
set_option maxRecDepth 100000 in
theorem c_Alu_changed {l : Launch} {D : va_G} {g : Nat → Nat}  (x0 : Int32) (x1 : Int32) (x2 : Int32)   : CT l D g y_Alu_changed b_Alu_changed 3 (some .int) (rD 1) [.int x0, .int x1, .int x2] ([]) ([]) (Qi D (fun (r : Int32) (_ : Unit) => sp_Alu_changed x0 x1 x2 = r) (fun _ => [])) := by
  refine CT.of rfl (Nat.le_of_ble_eq_true rfl) (fun p e s m below meth c A ls hx hb hr hml hts hown hlocks hA hP hK hD hF hS hl => ?_)
  have hl : lv_has ls 3 [(0, .int x0), (1, .int x1), (2, .int x2)] := hl
  refine lv_iload_n hx hb d_Alu_changed_0 rfl (lv_at hl 0 rfl) ?_
  by_cases c_1 : x0 = 0
  · refine lv_tableIn (off := 131) (tgt := 132) hx hb d_Alu_changed_1 (by rw [c_1]; decide) (by rw [c_1]; decide) (by rw [c_1]; rfl) (by decide) ?_
    refine lv_iload_n hx hb d_Alu_changed_132 rfl (lv_at hl 1 rfl) ?_
    refine lv_iload_n hx hb d_Alu_changed_133 rfl (lv_at hl 2 rfl) ?_
    refine lv_iadd hx hb d_Alu_changed_134 ?_
    exact ri () hx hb hr hlocks hP hD hS d_Alu_changed_135 (by simp only [sp_Alu_changed, if_pos c_1])
  · by_cases c_2 : x0 = 1
    · refine lv_tableIn (off := 187) (tgt := 188) hx hb d_Alu_changed_1 (by rw [c_2]; decide) (by rw [c_2]; decide) (by rw [c_2]; rfl) (by decide) ?_
      refine lv_iload_n hx hb d_Alu_changed_188 rfl (lv_at hl 2 rfl) ?_
      exact ri () hx hb hr hlocks hP hD hS d_Alu_changed_189 (by simp only [sp_Alu_changed, if_neg c_1, if_pos c_2])
    · by_cases c_3 : x0 = 2
      · refine lv_tableIn (off := 187) (tgt := 188) hx hb d_Alu_changed_1 (by rw [c_3]; decide) (by rw [c_3]; decide) (by rw [c_3]; rfl) (by decide) ?_
        refine lv_iload_n hx hb d_Alu_changed_188 rfl (lv_at hl 2 rfl) ?_
        exact ri () hx hb hr hlocks hP hD hS d_Alu_changed_189 (by simp only [sp_Alu_changed, if_neg c_1, if_neg c_2, if_pos c_3])
      · by_cases c_4 : x0 = 3
        · refine lv_tableIn (off := 187) (tgt := 188) hx hb d_Alu_changed_1 (by rw [c_4]; decide) (by rw [c_4]; decide) (by rw [c_4]; rfl) (by decide) ?_
          refine lv_iload_n hx hb d_Alu_changed_188 rfl (lv_at hl 2 rfl) ?_
          exact ri () hx hb hr hlocks hP hD hS d_Alu_changed_189 (by simp only [sp_Alu_changed, if_neg c_1, if_neg c_2, if_neg c_3, if_pos c_4])
        · by_cases c_5 : x0 = 4
          · refine lv_tableIn (off := 135) (tgt := 136) hx hb d_Alu_changed_1 (by rw [c_5]; decide) (by rw [c_5]; decide) (by rw [c_5]; rfl) (by decide) ?_
            refine lv_iload_n hx hb d_Alu_changed_136 rfl (lv_at hl 1 rfl) ?_
            refine lv_iload_n hx hb d_Alu_changed_137 rfl (lv_at hl 2 rfl) ?_
            refine lv_ixor hx hb d_Alu_changed_138 ?_
            exact ri () hx hb hr hlocks hP hD hS d_Alu_changed_139 (by simp only [sp_Alu_changed, if_neg c_1, if_neg c_2, if_neg c_3, if_neg c_4, if_pos c_5])
          · by_cases c_6 : x0 = 5
            · refine lv_tableIn (off := 187) (tgt := 188) hx hb d_Alu_changed_1 (by rw [c_6]; decide) (by rw [c_6]; decide) (by rw [c_6]; rfl) (by decide) ?_
              refine lv_iload_n hx hb d_Alu_changed_188 rfl (lv_at hl 2 rfl) ?_
              exact ri () hx hb hr hlocks hP hD hS d_Alu_changed_189 (by simp only [sp_Alu_changed, if_neg c_1, if_neg c_2, if_neg c_3, if_neg c_4, if_neg c_5, if_pos c_6])
            · by_cases c_7 : x0 = 6
              · refine lv_tableIn (off := 187) (tgt := 188) hx hb d_Alu_changed_1 (by rw [c_7]; decide) (by rw [c_7]; decide) (by rw [c_7]; rfl) (by decide) ?_
                refine lv_iload_n hx hb d_Alu_changed_188 rfl (lv_at hl 2 rfl) ?_
                exact ri () hx hb hr hlocks hP hD hS d_Alu_changed_189 (by simp only [sp_Alu_changed, if_neg c_1, if_neg c_2, if_neg c_3, if_neg c_4, if_neg c_5, if_neg c_6, if_pos c_7])
              · by_cases c_8 : x0 = 7
                · refine lv_tableIn (off := 187) (tgt := 188) hx hb d_Alu_changed_1 (by rw [c_8]; decide) (by rw [c_8]; decide) (by rw [c_8]; rfl) (by decide) ?_
                  refine lv_iload_n hx hb d_Alu_changed_188 rfl (lv_at hl 2 rfl) ?_
                  exact ri () hx hb hr hlocks hP hD hS d_Alu_changed_189 (by simp only [sp_Alu_changed, if_neg c_1, if_neg c_2, if_neg c_3, if_neg c_4, if_neg c_5, if_neg c_6, if_neg c_7, if_pos c_8])
                · by_cases c_9 : x0 = 8
                  · refine lv_tableIn (off := 139) (tgt := 140) hx hb d_Alu_changed_1 (by rw [c_9]; decide) (by rw [c_9]; decide) (by rw [c_9]; rfl) (by decide) ?_
                    refine lv_iload_n hx hb d_Alu_changed_140 rfl (lv_at hl 1 rfl) ?_
                    refine lv_iload_n hx hb d_Alu_changed_141 rfl (lv_at hl 2 rfl) ?_
                    refine lv_ior hx hb d_Alu_changed_142 ?_
                    exact ri () hx hb hr hlocks hP hD hS d_Alu_changed_143 (by simp only [sp_Alu_changed, if_neg c_1, if_neg c_2, if_neg c_3, if_neg c_4, if_neg c_5, if_neg c_6, if_neg c_7, if_neg c_8, if_pos c_9])
                  · by_cases c_10 : x0 = 9
                    · refine lv_tableIn (off := 187) (tgt := 188) hx hb d_Alu_changed_1 (by rw [c_10]; decide) (by rw [c_10]; decide) (by rw [c_10]; rfl) (by decide) ?_
                      refine lv_iload_n hx hb d_Alu_changed_188 rfl (lv_at hl 2 rfl) ?_
                      exact ri () hx hb hr hlocks hP hD hS d_Alu_changed_189 (by simp only [sp_Alu_changed, if_neg c_1, if_neg c_2, if_neg c_3, if_neg c_4, if_neg c_5, if_neg c_6, if_neg c_7, if_neg c_8, if_neg c_9, if_pos c_10])
                    · by_cases c_11 : x0 = 10
                      · refine lv_tableIn (off := 187) (tgt := 188) hx hb d_Alu_changed_1 (by rw [c_11]; decide) (by rw [c_11]; decide) (by rw [c_11]; rfl) (by decide) ?_
                        refine lv_iload_n hx hb d_Alu_changed_188 rfl (lv_at hl 2 rfl) ?_
                        exact ri () hx hb hr hlocks hP hD hS d_Alu_changed_189 (by simp only [sp_Alu_changed, if_neg c_1, if_neg c_2, if_neg c_3, if_neg c_4, if_neg c_5, if_neg c_6, if_neg c_7, if_neg c_8, if_neg c_9, if_neg c_10, if_pos c_11])
                      · by_cases c_12 : x0 = 11
                        · refine lv_tableIn (off := 187) (tgt := 188) hx hb d_Alu_changed_1 (by rw [c_12]; decide) (by rw [c_12]; decide) (by rw [c_12]; rfl) (by decide) ?_
                          refine lv_iload_n hx hb d_Alu_changed_188 rfl (lv_at hl 2 rfl) ?_
                          exact ri () hx hb hr hlocks hP hD hS d_Alu_changed_189 (by simp only [sp_Alu_changed, if_neg c_1, if_neg c_2, if_neg c_3, if_neg c_4, if_neg c_5, if_neg c_6, if_neg c_7, if_neg c_8, if_neg c_9, if_neg c_10, if_neg c_11, if_pos c_12])
                        · by_cases c_13 : x0 = 12
                          · refine lv_tableIn (off := 143) (tgt := 144) hx hb d_Alu_changed_1 (by rw [c_13]; decide) (by rw [c_13]; decide) (by rw [c_13]; rfl) (by decide) ?_
                            refine lv_iload_n hx hb d_Alu_changed_144 rfl (lv_at hl 1 rfl) ?_
                            refine lv_iload_n hx hb d_Alu_changed_145 rfl (lv_at hl 2 rfl) ?_
                            refine lv_iand hx hb d_Alu_changed_146 ?_
                            exact ri () hx hb hr hlocks hP hD hS d_Alu_changed_147 (by simp only [sp_Alu_changed, if_neg c_1, if_neg c_2, if_neg c_3, if_neg c_4, if_neg c_5, if_neg c_6, if_neg c_7, if_neg c_8, if_neg c_9, if_neg c_10, if_neg c_11, if_neg c_12, if_pos c_13])
                          · by_cases c_14 : x0 = 13
                            · refine lv_tableIn (off := 187) (tgt := 188) hx hb d_Alu_changed_1 (by rw [c_14]; decide) (by rw [c_14]; decide) (by rw [c_14]; rfl) (by decide) ?_
                              refine lv_iload_n hx hb d_Alu_changed_188 rfl (lv_at hl 2 rfl) ?_
                              exact ri () hx hb hr hlocks hP hD hS d_Alu_changed_189 (by simp only [sp_Alu_changed, if_neg c_1, if_neg c_2, if_neg c_3, if_neg c_4, if_neg c_5, if_neg c_6, if_neg c_7, if_neg c_8, if_neg c_9, if_neg c_10, if_neg c_11, if_neg c_12, if_neg c_13, if_pos c_14])
                            · by_cases c_15 : x0 = 14
                              · refine lv_tableIn (off := 187) (tgt := 188) hx hb d_Alu_changed_1 (by rw [c_15]; decide) (by rw [c_15]; decide) (by rw [c_15]; rfl) (by decide) ?_
                                refine lv_iload_n hx hb d_Alu_changed_188 rfl (lv_at hl 2 rfl) ?_
                                exact ri () hx hb hr hlocks hP hD hS d_Alu_changed_189 (by simp only [sp_Alu_changed, if_neg c_1, if_neg c_2, if_neg c_3, if_neg c_4, if_neg c_5, if_neg c_6, if_neg c_7, if_neg c_8, if_neg c_9, if_neg c_10, if_neg c_11, if_neg c_12, if_neg c_13, if_neg c_14, if_pos c_15])
                              · by_cases c_16 : x0 = 15
                                · refine lv_tableIn (off := 187) (tgt := 188) hx hb d_Alu_changed_1 (by rw [c_16]; decide) (by rw [c_16]; decide) (by rw [c_16]; rfl) (by decide) ?_
                                  refine lv_iload_n hx hb d_Alu_changed_188 rfl (lv_at hl 2 rfl) ?_
                                  exact ri () hx hb hr hlocks hP hD hS d_Alu_changed_189 (by simp only [sp_Alu_changed, if_neg c_1, if_neg c_2, if_neg c_3, if_neg c_4, if_neg c_5, if_neg c_6, if_neg c_7, if_neg c_8, if_neg c_9, if_neg c_10, if_neg c_11, if_neg c_12, if_neg c_13, if_neg c_14, if_neg c_15, if_pos c_16])
                                · by_cases c_17 : x0 = 16
                                  · refine lv_tableIn (off := 147) (tgt := 148) hx hb d_Alu_changed_1 (by rw [c_17]; decide) (by rw [c_17]; decide) (by rw [c_17]; rfl) (by decide) ?_
                                    refine lv_iload_n hx hb d_Alu_changed_148 rfl (lv_at hl 1 rfl) ?_
                                    refine lv_iload_n hx hb d_Alu_changed_149 rfl (lv_at hl 2 rfl) ?_
                                    refine va_mmin hx hb (hml.trans hl.1.symm) hown (hts _ k_111) (hts _ k_112) (hts _ k_113) (hts _ k_114) (Nat.le_of_ble_eq_true rfl) (Nat.le_of_ble_eq_true rfl) (Nat.zero_le _) (Nat.zero_le _) d_Alu_changed_150 ?_
                                    exact ri () hx hb hr hlocks hP hD hS d_Alu_changed_153 (by simp only [sp_Alu_changed, if_neg c_1, if_neg c_2, if_neg c_3, if_neg c_4, if_neg c_5, if_neg c_6, if_neg c_7, if_neg c_8, if_neg c_9, if_neg c_10, if_neg c_11, if_neg c_12, if_neg c_13, if_neg c_14, if_neg c_15, if_neg c_16, if_pos c_17])
                                  · by_cases c_18 : x0 = 17
                                    · refine lv_tableIn (off := 187) (tgt := 188) hx hb d_Alu_changed_1 (by rw [c_18]; decide) (by rw [c_18]; decide) (by rw [c_18]; rfl) (by decide) ?_
                                      refine lv_iload_n hx hb d_Alu_changed_188 rfl (lv_at hl 2 rfl) ?_
                                      exact ri () hx hb hr hlocks hP hD hS d_Alu_changed_189 (by simp only [sp_Alu_changed, if_neg c_1, if_neg c_2, if_neg c_3, if_neg c_4, if_neg c_5, if_neg c_6, if_neg c_7, if_neg c_8, if_neg c_9, if_neg c_10, if_neg c_11, if_neg c_12, if_neg c_13, if_neg c_14, if_neg c_15, if_neg c_16, if_neg c_17, if_pos c_18])
                                    · by_cases c_19 : x0 = 18
                                      · refine lv_tableIn (off := 187) (tgt := 188) hx hb d_Alu_changed_1 (by rw [c_19]; decide) (by rw [c_19]; decide) (by rw [c_19]; rfl) (by decide) ?_
                                        refine lv_iload_n hx hb d_Alu_changed_188 rfl (lv_at hl 2 rfl) ?_
                                        exact ri () hx hb hr hlocks hP hD hS d_Alu_changed_189 (by simp only [sp_Alu_changed, if_neg c_1, if_neg c_2, if_neg c_3, if_neg c_4, if_neg c_5, if_neg c_6, if_neg c_7, if_neg c_8, if_neg c_9, if_neg c_10, if_neg c_11, if_neg c_12, if_neg c_13, if_neg c_14, if_neg c_15, if_neg c_16, if_neg c_17, if_neg c_18, if_pos c_19])
                                      · by_cases c_20 : x0 = 19
                                        · refine lv_tableIn (off := 187) (tgt := 188) hx hb d_Alu_changed_1 (by rw [c_20]; decide) (by rw [c_20]; decide) (by rw [c_20]; rfl) (by decide) ?_
                                          refine lv_iload_n hx hb d_Alu_changed_188 rfl (lv_at hl 2 rfl) ?_
                                          exact ri () hx hb hr hlocks hP hD hS d_Alu_changed_189 (by simp only [sp_Alu_changed, if_neg c_1, if_neg c_2, if_neg c_3, if_neg c_4, if_neg c_5, if_neg c_6, if_neg c_7, if_neg c_8, if_neg c_9, if_neg c_10, if_neg c_11, if_neg c_12, if_neg c_13, if_neg c_14, if_neg c_15, if_neg c_16, if_neg c_17, if_neg c_18, if_neg c_19, if_pos c_20])
                                        · by_cases c_21 : x0 = 20
                                          · refine lv_tableIn (off := 153) (tgt := 154) hx hb d_Alu_changed_1 (by rw [c_21]; decide) (by rw [c_21]; decide) (by rw [c_21]; rfl) (by decide) ?_
                                            refine lv_iload_n hx hb d_Alu_changed_154 rfl (lv_at hl 1 rfl) ?_
                                            refine lv_iload_n hx hb d_Alu_changed_155 rfl (lv_at hl 2 rfl) ?_
                                            refine va_mmax hx hb (hml.trans hl.1.symm) hown (hts _ k_115) (hts _ k_116) (hts _ k_113) (hts _ k_117) (Nat.le_of_ble_eq_true rfl) (Nat.le_of_ble_eq_true rfl) (Nat.zero_le _) (Nat.zero_le _) d_Alu_changed_156 ?_
                                            exact ri () hx hb hr hlocks hP hD hS d_Alu_changed_159 (by simp only [sp_Alu_changed, if_neg c_1, if_neg c_2, if_neg c_3, if_neg c_4, if_neg c_5, if_neg c_6, if_neg c_7, if_neg c_8, if_neg c_9, if_neg c_10, if_neg c_11, if_neg c_12, if_neg c_13, if_neg c_14, if_neg c_15, if_neg c_16, if_neg c_17, if_neg c_18, if_neg c_19, if_neg c_20, if_pos c_21])
                                          · by_cases c_22 : x0 = 21
                                            · refine lv_tableIn (off := 187) (tgt := 188) hx hb d_Alu_changed_1 (by rw [c_22]; decide) (by rw [c_22]; decide) (by rw [c_22]; rfl) (by decide) ?_
                                              refine lv_iload_n hx hb d_Alu_changed_188 rfl (lv_at hl 2 rfl) ?_
                                              exact ri () hx hb hr hlocks hP hD hS d_Alu_changed_189 (by simp only [sp_Alu_changed, if_neg c_1, if_neg c_2, if_neg c_3, if_neg c_4, if_neg c_5, if_neg c_6, if_neg c_7, if_neg c_8, if_neg c_9, if_neg c_10, if_neg c_11, if_neg c_12, if_neg c_13, if_neg c_14, if_neg c_15, if_neg c_16, if_neg c_17, if_neg c_18, if_neg c_19, if_neg c_20, if_neg c_21, if_pos c_22])
                                            · by_cases c_23 : x0 = 22
                                              · refine lv_tableIn (off := 187) (tgt := 188) hx hb d_Alu_changed_1 (by rw [c_23]; decide) (by rw [c_23]; decide) (by rw [c_23]; rfl) (by decide) ?_
                                                refine lv_iload_n hx hb d_Alu_changed_188 rfl (lv_at hl 2 rfl) ?_
                                                exact ri () hx hb hr hlocks hP hD hS d_Alu_changed_189 (by simp only [sp_Alu_changed, if_neg c_1, if_neg c_2, if_neg c_3, if_neg c_4, if_neg c_5, if_neg c_6, if_neg c_7, if_neg c_8, if_neg c_9, if_neg c_10, if_neg c_11, if_neg c_12, if_neg c_13, if_neg c_14, if_neg c_15, if_neg c_16, if_neg c_17, if_neg c_18, if_neg c_19, if_neg c_20, if_neg c_21, if_neg c_22, if_pos c_23])
                                              · by_cases c_24 : x0 = 23
                                                · refine lv_tableIn (off := 187) (tgt := 188) hx hb d_Alu_changed_1 (by rw [c_24]; decide) (by rw [c_24]; decide) (by rw [c_24]; rfl) (by decide) ?_
                                                  refine lv_iload_n hx hb d_Alu_changed_188 rfl (lv_at hl 2 rfl) ?_
                                                  exact ri () hx hb hr hlocks hP hD hS d_Alu_changed_189 (by simp only [sp_Alu_changed, if_neg c_1, if_neg c_2, if_neg c_3, if_neg c_4, if_neg c_5, if_neg c_6, if_neg c_7, if_neg c_8, if_neg c_9, if_neg c_10, if_neg c_11, if_neg c_12, if_neg c_13, if_neg c_14, if_neg c_15, if_neg c_16, if_neg c_17, if_neg c_18, if_neg c_19, if_neg c_20, if_neg c_21, if_neg c_22, if_neg c_23, if_pos c_24])
                                                · by_cases c_25 : x0 = 24
                                                  · refine lv_tableIn (off := 159) (tgt := 160) hx hb d_Alu_changed_1 (by rw [c_25]; decide) (by rw [c_25]; decide) (by rw [c_25]; rfl) (by decide) ?_
                                                    refine lv_iload_n hx hb d_Alu_changed_160 rfl (lv_at hl 1 rfl) ?_
                                                    refine lv_iload_n hx hb d_Alu_changed_161 rfl (lv_at hl 2 rfl) ?_
                                                    refine xi (wr := []) (W2 := fun _ => []) (xS (rest := []) ⟨hx, hb, hml, hown, hts⟩ (c_Alu_below x1 x2) mw_Alu_below ms_Alu_below k_97 ⟨rfl, rfl, Nat.le_of_ble_eq_true rfl, Nat.le_of_ble_eq_true rfl⟩ hK hP hD hS hA hF [] [] rfl rfl rfl rfl hl.1 rfl (Nat.le_of_ble_eq_true rfl) d_Alu_changed_162 ⟨Nat.zero_le _, Nat.zero_le _⟩) hP hD hS hA [] [] [] rfl rfl rfl (by decide) (fun _ => rfl) rfl (fun r_26 _ H locs h_26 hP hD hS => ?_)
                                                    obtain ⟨h_26, z_26⟩ := h_26
                                                    subst h_26
                                                    refine lv_if_eq (tgt := 172) hx hb d_Alu_changed_165 (by decide) (fun c_27 => ?_) (fun c_27 => ?_)
                                                    · refine lv_iload_n hx hb d_Alu_changed_172 rfl (lv_at hl 2 rfl) ?_
                                                      exact ri () hx hb hr hlocks hP hD hS d_Alu_changed_173 (by simp only [sp_Alu_changed, if_neg c_1, if_neg c_2, if_neg c_3, if_neg c_4, if_neg c_5, if_neg c_6, if_neg c_7, if_neg c_8, if_neg c_9, if_neg c_10, if_neg c_11, if_neg c_12, if_neg c_13, if_neg c_14, if_neg c_15, if_neg c_16, if_neg c_17, if_neg c_18, if_neg c_19, if_neg c_20, if_neg c_21, if_neg c_22, if_neg c_23, if_neg c_24, if_pos c_25, if_pos c_27])
                                                    · refine lv_iload_n hx hb d_Alu_changed_168 rfl (lv_at hl 1 rfl) ?_
                                                      refine lv_goto (tgt := 173) hx hb d_Alu_changed_169 (by decide) ?_
                                                      exact ri () hx hb hr hlocks hP hD hS d_Alu_changed_173 (by simp only [sp_Alu_changed, if_neg c_1, if_neg c_2, if_neg c_3, if_neg c_4, if_neg c_5, if_neg c_6, if_neg c_7, if_neg c_8, if_neg c_9, if_neg c_10, if_neg c_11, if_neg c_12, if_neg c_13, if_neg c_14, if_neg c_15, if_neg c_16, if_neg c_17, if_neg c_18, if_neg c_19, if_neg c_20, if_neg c_21, if_neg c_22, if_neg c_23, if_neg c_24, if_pos c_25, if_neg c_27])
                                                  · by_cases c_28 : x0 = 25
                                                    · refine lv_tableIn (off := 187) (tgt := 188) hx hb d_Alu_changed_1 (by rw [c_28]; decide) (by rw [c_28]; decide) (by rw [c_28]; rfl) (by decide) ?_
                                                      refine lv_iload_n hx hb d_Alu_changed_188 rfl (lv_at hl 2 rfl) ?_
                                                      exact ri () hx hb hr hlocks hP hD hS d_Alu_changed_189 (by simp only [sp_Alu_changed, if_neg c_1, if_neg c_2, if_neg c_3, if_neg c_4, if_neg c_5, if_neg c_6, if_neg c_7, if_neg c_8, if_neg c_9, if_neg c_10, if_neg c_11, if_neg c_12, if_neg c_13, if_neg c_14, if_neg c_15, if_neg c_16, if_neg c_17, if_neg c_18, if_neg c_19, if_neg c_20, if_neg c_21, if_neg c_22, if_neg c_23, if_neg c_24, if_neg c_25, if_pos c_28])
                                                    · by_cases c_29 : x0 = 26
                                                      · refine lv_tableIn (off := 187) (tgt := 188) hx hb d_Alu_changed_1 (by rw [c_29]; decide) (by rw [c_29]; decide) (by rw [c_29]; rfl) (by decide) ?_
                                                        refine lv_iload_n hx hb d_Alu_changed_188 rfl (lv_at hl 2 rfl) ?_
                                                        exact ri () hx hb hr hlocks hP hD hS d_Alu_changed_189 (by simp only [sp_Alu_changed, if_neg c_1, if_neg c_2, if_neg c_3, if_neg c_4, if_neg c_5, if_neg c_6, if_neg c_7, if_neg c_8, if_neg c_9, if_neg c_10, if_neg c_11, if_neg c_12, if_neg c_13, if_neg c_14, if_neg c_15, if_neg c_16, if_neg c_17, if_neg c_18, if_neg c_19, if_neg c_20, if_neg c_21, if_neg c_22, if_neg c_23, if_neg c_24, if_neg c_25, if_neg c_28, if_pos c_29])
                                                      · by_cases c_30 : x0 = 27
                                                        · refine lv_tableIn (off := 187) (tgt := 188) hx hb d_Alu_changed_1 (by rw [c_30]; decide) (by rw [c_30]; decide) (by rw [c_30]; rfl) (by decide) ?_
                                                          refine lv_iload_n hx hb d_Alu_changed_188 rfl (lv_at hl 2 rfl) ?_
                                                          exact ri () hx hb hr hlocks hP hD hS d_Alu_changed_189 (by simp only [sp_Alu_changed, if_neg c_1, if_neg c_2, if_neg c_3, if_neg c_4, if_neg c_5, if_neg c_6, if_neg c_7, if_neg c_8, if_neg c_9, if_neg c_10, if_neg c_11, if_neg c_12, if_neg c_13, if_neg c_14, if_neg c_15, if_neg c_16, if_neg c_17, if_neg c_18, if_neg c_19, if_neg c_20, if_neg c_21, if_neg c_22, if_neg c_23, if_neg c_24, if_neg c_25, if_neg c_28, if_neg c_29, if_pos c_30])
                                                        · by_cases c_31 : x0 = 28
                                                          · refine lv_tableIn (off := 173) (tgt := 174) hx hb d_Alu_changed_1 (by rw [c_31]; decide) (by rw [c_31]; decide) (by rw [c_31]; rfl) (by decide) ?_
                                                            refine lv_iload_n hx hb d_Alu_changed_174 rfl (lv_at hl 1 rfl) ?_
                                                            refine lv_iload_n hx hb d_Alu_changed_175 rfl (lv_at hl 2 rfl) ?_
                                                            refine xi (wr := []) (W2 := fun _ => []) (xS (rest := []) ⟨hx, hb, hml, hown, hts⟩ (c_Alu_below x1 x2) mw_Alu_below ms_Alu_below k_97 ⟨rfl, rfl, Nat.le_of_ble_eq_true rfl, Nat.le_of_ble_eq_true rfl⟩ hK hP hD hS hA hF [] [] rfl rfl rfl rfl hl.1 rfl (Nat.le_of_ble_eq_true rfl) d_Alu_changed_176 ⟨Nat.zero_le _, Nat.zero_le _⟩) hP hD hS hA [] [] [] rfl rfl rfl (by decide) (fun _ => rfl) rfl (fun r_32 _ H locs h_32 hP hD hS => ?_)
                                                            obtain ⟨h_32, z_32⟩ := h_32
                                                            subst h_32
                                                            refine lv_if_eq (tgt := 186) hx hb d_Alu_changed_179 (by decide) (fun c_33 => ?_) (fun c_33 => ?_)
                                                            · refine lv_iload_n hx hb d_Alu_changed_186 rfl (lv_at hl 1 rfl) ?_
                                                              exact ri () hx hb hr hlocks hP hD hS d_Alu_changed_187 (by simp only [sp_Alu_changed, if_neg c_1, if_neg c_2, if_neg c_3, if_neg c_4, if_neg c_5, if_neg c_6, if_neg c_7, if_neg c_8, if_neg c_9, if_neg c_10, if_neg c_11, if_neg c_12, if_neg c_13, if_neg c_14, if_neg c_15, if_neg c_16, if_neg c_17, if_neg c_18, if_neg c_19, if_neg c_20, if_neg c_21, if_neg c_22, if_neg c_23, if_neg c_24, if_neg c_25, if_neg c_28, if_neg c_29, if_neg c_30, if_pos c_31, if_pos c_33])
                                                            · refine lv_iload_n hx hb d_Alu_changed_182 rfl (lv_at hl 2 rfl) ?_
                                                              refine lv_goto (tgt := 187) hx hb d_Alu_changed_183 (by decide) ?_
                                                              exact ri () hx hb hr hlocks hP hD hS d_Alu_changed_187 (by simp only [sp_Alu_changed, if_neg c_1, if_neg c_2, if_neg c_3, if_neg c_4, if_neg c_5, if_neg c_6, if_neg c_7, if_neg c_8, if_neg c_9, if_neg c_10, if_neg c_11, if_neg c_12, if_neg c_13, if_neg c_14, if_neg c_15, if_neg c_16, if_neg c_17, if_neg c_18, if_neg c_19, if_neg c_20, if_neg c_21, if_neg c_22, if_neg c_23, if_neg c_24, if_neg c_25, if_neg c_28, if_neg c_29, if_neg c_30, if_pos c_31, if_neg c_33])
                                                          · refine lv_tableOut (tgt := 188) hx hb d_Alu_changed_1 (by have := lv_neT (a := 0) c_1 rfl; have := lv_neT (a := 1) c_2 rfl; have := lv_neT (a := 2) c_3 rfl; have := lv_neT (a := 3) c_4 rfl; have := lv_neT (a := 4) c_5 rfl; have := lv_neT (a := 5) c_6 rfl; have := lv_neT (a := 6) c_7 rfl; have := lv_neT (a := 7) c_8 rfl; have := lv_neT (a := 8) c_9 rfl; have := lv_neT (a := 9) c_10 rfl; have := lv_neT (a := 10) c_11 rfl; have := lv_neT (a := 11) c_12 rfl; have := lv_neT (a := 12) c_13 rfl; have := lv_neT (a := 13) c_14 rfl; have := lv_neT (a := 14) c_15 rfl; have := lv_neT (a := 15) c_16 rfl; have := lv_neT (a := 16) c_17 rfl; have := lv_neT (a := 17) c_18 rfl; have := lv_neT (a := 18) c_19 rfl; have := lv_neT (a := 19) c_20 rfl; have := lv_neT (a := 20) c_21 rfl; have := lv_neT (a := 21) c_22 rfl; have := lv_neT (a := 22) c_23 rfl; have := lv_neT (a := 23) c_24 rfl; have := lv_neT (a := 24) c_25 rfl; have := lv_neT (a := 25) c_28 rfl; have := lv_neT (a := 26) c_29 rfl; have := lv_neT (a := 27) c_30 rfl; have := lv_neT (a := 28) c_31 rfl; omega) (by decide) ?_
                                                            refine lv_iload_n hx hb d_Alu_changed_188 rfl (lv_at hl 2 rfl) ?_
                                                            exact ri () hx hb hr hlocks hP hD hS d_Alu_changed_189 (by simp only [sp_Alu_changed, if_neg c_1, if_neg c_2, if_neg c_3, if_neg c_4, if_neg c_5, if_neg c_6, if_neg c_7, if_neg c_8, if_neg c_9, if_neg c_10, if_neg c_11, if_neg c_12, if_neg c_13, if_neg c_14, if_neg c_15, if_neg c_16, if_neg c_17, if_neg c_18, if_neg c_19, if_neg c_20, if_neg c_21, if_neg c_22, if_neg c_23, if_neg c_24, if_neg c_25, if_neg c_28, if_neg c_29, if_neg c_30, if_neg c_31])
def sp_Alu_multiplied (x0 : Int32) (x1 : Int32) (x2 : Int32)  : Int32 :=
  if x0 = 1 then
    (lshr (x1.toInt64 * x2.toInt64) 32).toInt32
  else
    if x0 = 2 then
      (lshr (x1.toInt64 * (x2.toInt64 &&& 4294967295)) 32).toInt32
    else
      if x0 = 3 then
        (lshr ((x1.toInt64 &&& 4294967295) * (x2.toInt64 &&& 4294967295)) 32).toInt32
      else
        x1 * x2
set_option maxHeartbeats 4000000 in
set_option maxRecDepth 100000 in
theorem c_Alu_multiplied {l : Launch} {D : va_G} {g : Nat → Nat}  (x0 : Int32) (x1 : Int32) (x2 : Int32)   : CT l D g y_Alu_multiplied b_Alu_multiplied 3 (some .int) (rD 0) [.int x0, .int x1, .int x2] ([]) ([]) (Qi D (fun (r : Int32) (_ : Unit) => sp_Alu_multiplied x0 x1 x2 = r) (fun _ => [])) := by
  refine CT.of rfl (Nat.le_of_ble_eq_true rfl) (fun p e s m below meth c A ls hx hb hr hml hts hown hlocks hA hP hK hD hF hS hl => ?_)
  have hl : lv_has ls 3 [(0, .int x0), (1, .int x1), (2, .int x2)] := hl
  refine lv_iload_n hx hb d_Alu_multiplied_0 rfl (lv_at hl 0 rfl) ?_
  by_cases c_1 : x0 = 1
  · refine lv_tableIn (off := 27) (tgt := 28) hx hb d_Alu_multiplied_1 (by rw [c_1]; decide) (by rw [c_1]; decide) (by rw [c_1]; rfl) (by decide) ?_
    refine lv_iload_n hx hb d_Alu_multiplied_28 rfl (lv_at hl 1 rfl) ?_
    refine lv_i2l hx hb d_Alu_multiplied_29 rfl ?_
    refine lv_iload_n hx hb d_Alu_multiplied_30 rfl (lv_at hl 2 rfl) ?_
    refine lv_i2l hx hb d_Alu_multiplied_31 rfl ?_
    refine lv_lmul hx hb d_Alu_multiplied_32 ?_
    refine lv_bipush (v := 32) hx hb d_Alu_multiplied_33 rfl ?_
    refine lv_lshr (v := lshr (x1.toInt64 * x2.toInt64) 32) hx hb d_Alu_multiplied_35 rfl ?_
    refine lv_l2i hx hb d_Alu_multiplied_36 rfl ?_
    exact ri () hx hb hr hlocks hP hD hS d_Alu_multiplied_37 (by simp only [sp_Alu_multiplied, if_pos c_1])
  · by_cases c_2 : x0 = 2
    · refine lv_tableIn (off := 37) (tgt := 38) hx hb d_Alu_multiplied_1 (by rw [c_2]; decide) (by rw [c_2]; decide) (by rw [c_2]; rfl) (by decide) ?_
      refine lv_iload_n hx hb d_Alu_multiplied_38 rfl (lv_at hl 1 rfl) ?_
      refine lv_i2l hx hb d_Alu_multiplied_39 rfl ?_
      refine lv_iload_n hx hb d_Alu_multiplied_40 rfl (lv_at hl 2 rfl) ?_
      refine lv_i2l hx hb d_Alu_multiplied_41 rfl ?_
      refine lv_ldc2 (v := 4294967295) hx hb hown (hts _ k_125) d_Alu_multiplied_42 ?_
      refine lv_land hx hb d_Alu_multiplied_45 ?_
      refine lv_lmul hx hb d_Alu_multiplied_46 ?_
      refine lv_bipush (v := 32) hx hb d_Alu_multiplied_47 rfl ?_
      refine lv_lshr (v := lshr (x1.toInt64 * (x2.toInt64 &&& 4294967295)) 32) hx hb d_Alu_multiplied_49 rfl ?_
      refine lv_l2i hx hb d_Alu_multiplied_50 rfl ?_
      exact ri () hx hb hr hlocks hP hD hS d_Alu_multiplied_51 (by simp only [sp_Alu_multiplied, if_neg c_1, if_pos c_2])
    · by_cases c_3 : x0 = 3
      · refine lv_tableIn (off := 51) (tgt := 52) hx hb d_Alu_multiplied_1 (by rw [c_3]; decide) (by rw [c_3]; decide) (by rw [c_3]; rfl) (by decide) ?_
        refine lv_iload_n hx hb d_Alu_multiplied_52 rfl (lv_at hl 1 rfl) ?_
        refine lv_i2l hx hb d_Alu_multiplied_53 rfl ?_
        refine lv_ldc2 (v := 4294967295) hx hb hown (hts _ k_125) d_Alu_multiplied_54 ?_
        refine lv_land hx hb d_Alu_multiplied_57 ?_
        refine lv_iload_n hx hb d_Alu_multiplied_58 rfl (lv_at hl 2 rfl) ?_
        refine lv_i2l hx hb d_Alu_multiplied_59 rfl ?_
        refine lv_ldc2 (v := 4294967295) hx hb hown (hts _ k_125) d_Alu_multiplied_60 ?_
        refine lv_land hx hb d_Alu_multiplied_63 ?_
        refine lv_lmul hx hb d_Alu_multiplied_64 ?_
        refine lv_bipush (v := 32) hx hb d_Alu_multiplied_65 rfl ?_
        refine lv_lshr (v := lshr ((x1.toInt64 &&& 4294967295) * (x2.toInt64 &&& 4294967295)) 32) hx hb d_Alu_multiplied_67 rfl ?_
        refine lv_l2i hx hb d_Alu_multiplied_68 rfl ?_
        exact ri () hx hb hr hlocks hP hD hS d_Alu_multiplied_69 (by simp only [sp_Alu_multiplied, if_neg c_1, if_neg c_2, if_pos c_3])
      · refine lv_tableOut (tgt := 70) hx hb d_Alu_multiplied_1 (by have := lv_neT (a := 1) c_1 rfl; have := lv_neT (a := 2) c_2 rfl; have := lv_neT (a := 3) c_3 rfl; omega) (by decide) ?_
        refine lv_iload_n hx hb d_Alu_multiplied_70 rfl (lv_at hl 1 rfl) ?_
        refine lv_iload_n hx hb d_Alu_multiplied_71 rfl (lv_at hl 2 rfl) ?_
        refine lv_imul hx hb d_Alu_multiplied_72 ?_
        exact ri () hx hb hr hlocks hP hD hS d_Alu_multiplied_73 (by simp only [sp_Alu_multiplied, if_neg c_1, if_neg c_2, if_neg c_3])
def sp_Alu_divided (x0 : Int32) (x1 : Int32) (x2 : Int32)  : Int32 :=
  if x2 = 0 then
    if 6 ≤ x0 then
      x1
    else
      (-1)
  else
    if x0 = 4 then
      x1 / x2
    else
      if x0 = 5 then
        ((x1.toInt64 &&& 4294967295) / (x2.toInt64 &&& 4294967295)).toInt32
      else
        if x0 = 6 then
          x1 - x1 / x2 * x2
        else
          ((x1.toInt64 &&& 4294967295) - (x1.toInt64 &&& 4294967295) / (x2.toInt64 &&& 4294967295) * (x2.toInt64 &&& 4294967295)).toInt32
set_option maxHeartbeats 4000000 in
set_option maxRecDepth 100000 in
theorem c_Alu_divided {l : Launch} {D : va_G} {g : Nat → Nat}  (x0 : Int32) (x1 : Int32) (x2 : Int32)   : CT l D g y_Alu_divided b_Alu_divided 3 (some .int) (rD 0) [.int x0, .int x1, .int x2] ([]) ([]) (Qi D (fun (r : Int32) (_ : Unit) => sp_Alu_divided x0 x1 x2 = r) (fun _ => [])) := by
  refine CT.of rfl (Nat.le_of_ble_eq_true rfl) (fun p e s m below meth c A ls hx hb hr hml hts hown hlocks hA hP hK hD hF hS hl => ?_)
  have hl : lv_has ls 3 [(0, .int x0), (1, .int x1), (2, .int x2)] := hl
  refine lv_iload_n hx hb d_Alu_divided_0 rfl (lv_at hl 2 rfl) ?_
  refine lv_if_ne (tgt := 16) hx hb d_Alu_divided_1 (by decide) (fun c_1 => ?_) (fun c_1 => ?_)
  · refine lv_iload_n hx hb d_Alu_divided_16 rfl (lv_at hl 0 rfl) ?_
    by_cases c_2 : x0 = 4
    · refine lv_tableIn (off := 27) (tgt := 44) hx hb d_Alu_divided_17 (by rw [c_2]; decide) (by rw [c_2]; decide) (by rw [c_2]; rfl) (by decide) ?_
      refine lv_iload_n hx hb d_Alu_divided_44 rfl (lv_at hl 1 rfl) ?_
      refine lv_iload_n hx hb d_Alu_divided_45 rfl (lv_at hl 2 rfl) ?_
      refine lv_idiv hx hb d_Alu_divided_46 c_1 ?_
      exact ri () hx hb hr hlocks hP hD hS d_Alu_divided_47 (by simp only [sp_Alu_divided, if_neg c_1, if_pos c_2])
    · by_cases c_3 : x0 = 5
      · refine lv_tableIn (off := 31) (tgt := 48) hx hb d_Alu_divided_17 (by rw [c_3]; decide) (by rw [c_3]; decide) (by rw [c_3]; rfl) (by decide) ?_
        refine lv_iload_n hx hb d_Alu_divided_48 rfl (lv_at hl 1 rfl) ?_
        refine lv_i2l hx hb d_Alu_divided_49 rfl ?_
        refine lv_ldc2 (v := 4294967295) hx hb hown (hts _ k_125) d_Alu_divided_50 ?_
        refine lv_land hx hb d_Alu_divided_53 ?_
        refine lv_iload_n hx hb d_Alu_divided_54 rfl (lv_at hl 2 rfl) ?_
        refine lv_i2l hx hb d_Alu_divided_55 rfl ?_
        refine lv_ldc2 (v := 4294967295) hx hb hown (hts _ k_125) d_Alu_divided_56 ?_
        refine lv_land hx hb d_Alu_divided_59 ?_
        refine lv_ldiv hx hb d_Alu_divided_60 (lw_ne c_1) ?_
        refine lv_l2i hx hb d_Alu_divided_61 rfl ?_
        exact ri () hx hb hr hlocks hP hD hS d_Alu_divided_62 (by simp only [sp_Alu_divided, if_neg c_1, if_neg c_2, if_pos c_3])
      · by_cases c_4 : x0 = 6
        · refine lv_tableIn (off := 46) (tgt := 63) hx hb d_Alu_divided_17 (by rw [c_4]; decide) (by rw [c_4]; decide) (by rw [c_4]; rfl) (by decide) ?_
          refine lv_iload_n hx hb d_Alu_divided_63 rfl (lv_at hl 1 rfl) ?_
          refine lv_iload_n hx hb d_Alu_divided_64 rfl (lv_at hl 2 rfl) ?_
          refine lv_irem hx hb d_Alu_divided_65 c_1 ?_
          exact ri () hx hb hr hlocks hP hD hS d_Alu_divided_66 (by simp only [sp_Alu_divided, if_neg c_1, if_neg c_2, if_neg c_3, if_pos c_4])
        · refine lv_tableOut (tgt := 67) hx hb d_Alu_divided_17 (by have := lv_neT (a := 4) c_2 rfl; have := lv_neT (a := 5) c_3 rfl; have := lv_neT (a := 6) c_4 rfl; omega) (by decide) ?_
          refine lv_iload_n hx hb d_Alu_divided_67 rfl (lv_at hl 1 rfl) ?_
          refine lv_i2l hx hb d_Alu_divided_68 rfl ?_
          refine lv_ldc2 (v := 4294967295) hx hb hown (hts _ k_125) d_Alu_divided_69 ?_
          refine lv_land hx hb d_Alu_divided_72 ?_
          refine lv_iload_n hx hb d_Alu_divided_73 rfl (lv_at hl 2 rfl) ?_
          refine lv_i2l hx hb d_Alu_divided_74 rfl ?_
          refine lv_ldc2 (v := 4294967295) hx hb hown (hts _ k_125) d_Alu_divided_75 ?_
          refine lv_land hx hb d_Alu_divided_78 ?_
          refine lv_lrem hx hb d_Alu_divided_79 (lw_ne c_1) ?_
          refine lv_l2i hx hb d_Alu_divided_80 rfl ?_
          exact ri () hx hb hr hlocks hP hD hS d_Alu_divided_81 (by simp only [sp_Alu_divided, if_neg c_1, if_neg c_2, if_neg c_3, if_neg c_4])
  · refine lv_iload_n hx hb d_Alu_divided_4 rfl (lv_at hl 0 rfl) ?_
    refine lv_bipush (v := 6) hx hb d_Alu_divided_5 rfl ?_
    refine lv_icmp_ge (tgt := 14) hx hb d_Alu_divided_7 (by decide) (fun c_5 => ?_) (fun c_5 => ?_)
    · refine lv_iload_n hx hb d_Alu_divided_14 rfl (lv_at hl 1 rfl) ?_
      exact ri () hx hb hr hlocks hP hD hS d_Alu_divided_15 (by simp only [sp_Alu_divided, if_pos c_1, if_pos c_5])
    · refine lv_iconst (v := (-1)) hx hb d_Alu_divided_10 rfl ?_
      refine lv_goto (tgt := 15) hx hb d_Alu_divided_11 (by decide) ?_
      exact ri () hx hb hr hlocks hP hD hS d_Alu_divided_15 (by simp only [sp_Alu_divided, if_pos c_1, if_neg c_5])
def sp_Alu_branches (x0 : Int32) (x1 : Int32) (x2 : Int32)  : Int32 :=
  if x0 = 0 then
    if x1 = x2 then
      1
    else
      0
  else
    if x0 = 1 then
      if x1 = x2 then
        0
      else
        1
    else
      if x0 = 2 then
        if (sp_Alu_below x1 x2) = 0 then
          1
        else
          0
      else
        if x0 = 3 then
          if (sp_Alu_below x1 x2) = 0 then
            1
          else
            0
        else
          if x0 = 4 then
            if x2 ≤ x1 then
              0
            else
              1
          else
            if x0 = 5 then
              if x1 < x2 then
                0
              else
                1
            else
              if x0 = 6 then
                sp_Alu_below x1 x2
              else
                if (sp_Alu_below x1 x2) = 0 then
                  1
                else
                  0
set_option maxHeartbeats 4000000 in
set_option maxRecDepth 100000 in
theorem c_Alu_branches {l : Launch} {D : va_G} {g : Nat → Nat}  (x0 : Int32) (x1 : Int32) (x2 : Int32)   : CT l D g y_Alu_branches b_Alu_branches 3 (some .boolean) (rD 1) [.int x0, .int x1, .int x2] ([]) ([]) (Qi D (fun (r : Int32) (_ : Unit) => sp_Alu_branches x0 x1 x2 = r ∧ (r = 0 ∨ r = 1)) (fun _ => [])) := by
  refine CT.of rfl (Nat.le_of_ble_eq_true rfl) (fun p e s m below meth c A ls hx hb hr hml hts hown hlocks hA hP hK hD hF hS hl => ?_)
  have hl : lv_has ls 3 [(0, .int x0), (1, .int x1), (2, .int x2)] := hl
  refine lv_iload_n hx hb d_Alu_branches_0 rfl (lv_at hl 0 rfl) ?_
  by_cases c_1 : x0 = 0
  · refine lv_tableIn (off := 43) (tgt := 44) hx hb d_Alu_branches_1 (by rw [c_1]; decide) (by rw [c_1]; decide) (by rw [c_1]; rfl) (by decide) ?_
    refine lv_iload_n hx hb d_Alu_branches_44 rfl (lv_at hl 1 rfl) ?_
    refine lv_iload_n hx hb d_Alu_branches_45 rfl (lv_at hl 2 rfl) ?_
    refine lv_icmp_ne (tgt := 53) hx hb d_Alu_branches_46 (by decide) (fun c_2 => ?_) (fun c_2 => ?_)
    · refine lv_iconst (v := 0) hx hb d_Alu_branches_53 rfl ?_
      exact rz () hx hb hr hlocks rfl hP hD hS d_Alu_branches_54 ⟨by simp only [sp_Alu_branches, if_pos c_1, if_neg c_2], Or.inl rfl⟩
    · refine lv_iconst (v := 1) hx hb d_Alu_branches_49 rfl ?_
      refine lv_goto (tgt := 54) hx hb d_Alu_branches_50 (by decide) ?_
      exact rz () hx hb hr hlocks rfl hP hD hS d_Alu_branches_54 ⟨by simp only [sp_Alu_branches, if_pos c_1, if_pos c_2], Or.inr rfl⟩
  · by_cases c_3 : x0 = 1
    · refine lv_tableIn (off := 54) (tgt := 55) hx hb d_Alu_branches_1 (by rw [c_3]; decide) (by rw [c_3]; decide) (by rw [c_3]; rfl) (by decide) ?_
      refine lv_iload_n hx hb d_Alu_branches_55 rfl (lv_at hl 1 rfl) ?_
      refine lv_iload_n hx hb d_Alu_branches_56 rfl (lv_at hl 2 rfl) ?_
      refine lv_icmp_eq (tgt := 64) hx hb d_Alu_branches_57 (by decide) (fun c_4 => ?_) (fun c_4 => ?_)
      · refine lv_iconst (v := 0) hx hb d_Alu_branches_64 rfl ?_
        exact rz () hx hb hr hlocks rfl hP hD hS d_Alu_branches_65 ⟨by simp only [sp_Alu_branches, if_neg c_1, if_pos c_3, if_pos c_4], Or.inl rfl⟩
      · refine lv_iconst (v := 1) hx hb d_Alu_branches_60 rfl ?_
        refine lv_goto (tgt := 65) hx hb d_Alu_branches_61 (by decide) ?_
        exact rz () hx hb hr hlocks rfl hP hD hS d_Alu_branches_65 ⟨by simp only [sp_Alu_branches, if_neg c_1, if_pos c_3, if_neg c_4], Or.inr rfl⟩
    · by_cases c_5 : x0 = 2
      · refine lv_tableIn (off := 93) (tgt := 94) hx hb d_Alu_branches_1 (by rw [c_5]; decide) (by rw [c_5]; decide) (by rw [c_5]; rfl) (by decide) ?_
        refine lv_iload_n hx hb d_Alu_branches_94 rfl (lv_at hl 1 rfl) ?_
        refine lv_iload_n hx hb d_Alu_branches_95 rfl (lv_at hl 2 rfl) ?_
        refine xi (wr := []) (W2 := fun _ => []) (xS (rest := []) ⟨hx, hb, hml, hown, hts⟩ (c_Alu_below x1 x2) mw_Alu_below ms_Alu_below k_97 ⟨rfl, rfl, Nat.le_of_ble_eq_true rfl, Nat.le_of_ble_eq_true rfl⟩ hK hP hD hS hA hF [] [] rfl rfl rfl rfl hl.1 rfl (Nat.le_of_ble_eq_true rfl) d_Alu_branches_96 ⟨Nat.zero_le _, Nat.zero_le _⟩) hP hD hS hA [] [] [] rfl rfl rfl (by decide) (fun _ => rfl) rfl (fun r_6 _ H locs h_6 hP hD hS => ?_)
        obtain ⟨h_6, z_6⟩ := h_6
        subst h_6
        refine lv_if_ne (tgt := 106) hx hb d_Alu_branches_99 (by decide) (fun c_7 => ?_) (fun c_7 => ?_)
        · refine lv_iconst (v := 0) hx hb d_Alu_branches_106 rfl ?_
          exact rz () hx hb hr hlocks rfl hP hD hS d_Alu_branches_107 ⟨by simp only [sp_Alu_branches, if_neg c_1, if_neg c_3, if_pos c_5, if_neg c_7], Or.inl rfl⟩
        · refine lv_iconst (v := 1) hx hb d_Alu_branches_102 rfl ?_
          refine lv_goto (tgt := 107) hx hb d_Alu_branches_103 (by decide) ?_
          exact rz () hx hb hr hlocks rfl hP hD hS d_Alu_branches_107 ⟨by simp only [sp_Alu_branches, if_neg c_1, if_neg c_3, if_pos c_5, if_pos c_7], Or.inr rfl⟩
      · by_cases c_8 : x0 = 3
        · refine lv_tableIn (off := 93) (tgt := 94) hx hb d_Alu_branches_1 (by rw [c_8]; decide) (by rw [c_8]; decide) (by rw [c_8]; rfl) (by decide) ?_
          refine lv_iload_n hx hb d_Alu_branches_94 rfl (lv_at hl 1 rfl) ?_
          refine lv_iload_n hx hb d_Alu_branches_95 rfl (lv_at hl 2 rfl) ?_
          refine xi (wr := []) (W2 := fun _ => []) (xS (rest := []) ⟨hx, hb, hml, hown, hts⟩ (c_Alu_below x1 x2) mw_Alu_below ms_Alu_below k_97 ⟨rfl, rfl, Nat.le_of_ble_eq_true rfl, Nat.le_of_ble_eq_true rfl⟩ hK hP hD hS hA hF [] [] rfl rfl rfl rfl hl.1 rfl (Nat.le_of_ble_eq_true rfl) d_Alu_branches_96 ⟨Nat.zero_le _, Nat.zero_le _⟩) hP hD hS hA [] [] [] rfl rfl rfl (by decide) (fun _ => rfl) rfl (fun r_9 _ H locs h_9 hP hD hS => ?_)
          obtain ⟨h_9, z_9⟩ := h_9
          subst h_9
          refine lv_if_ne (tgt := 106) hx hb d_Alu_branches_99 (by decide) (fun c_10 => ?_) (fun c_10 => ?_)
          · refine lv_iconst (v := 0) hx hb d_Alu_branches_106 rfl ?_
            exact rz () hx hb hr hlocks rfl hP hD hS d_Alu_branches_107 ⟨by simp only [sp_Alu_branches, if_neg c_1, if_neg c_3, if_neg c_5, if_pos c_8, if_neg c_10], Or.inl rfl⟩
          · refine lv_iconst (v := 1) hx hb d_Alu_branches_102 rfl ?_
            refine lv_goto (tgt := 107) hx hb d_Alu_branches_103 (by decide) ?_
            exact rz () hx hb hr hlocks rfl hP hD hS d_Alu_branches_107 ⟨by simp only [sp_Alu_branches, if_neg c_1, if_neg c_3, if_neg c_5, if_pos c_8, if_pos c_10], Or.inr rfl⟩
        · by_cases c_11 : x0 = 4
          · refine lv_tableIn (off := 65) (tgt := 66) hx hb d_Alu_branches_1 (by rw [c_11]; decide) (by rw [c_11]; decide) (by rw [c_11]; rfl) (by decide) ?_
            refine lv_iload_n hx hb d_Alu_branches_66 rfl (lv_at hl 1 rfl) ?_
            refine lv_iload_n hx hb d_Alu_branches_67 rfl (lv_at hl 2 rfl) ?_
            refine lv_icmp_ge (tgt := 75) hx hb d_Alu_branches_68 (by decide) (fun c_12 => ?_) (fun c_12 => ?_)
            · refine lv_iconst (v := 0) hx hb d_Alu_branches_75 rfl ?_
              exact rz () hx hb hr hlocks rfl hP hD hS d_Alu_branches_76 ⟨by simp only [sp_Alu_branches, if_neg c_1, if_neg c_3, if_neg c_5, if_neg c_8, if_pos c_11, if_pos c_12], Or.inl rfl⟩
            · refine lv_iconst (v := 1) hx hb d_Alu_branches_71 rfl ?_
              refine lv_goto (tgt := 76) hx hb d_Alu_branches_72 (by decide) ?_
              exact rz () hx hb hr hlocks rfl hP hD hS d_Alu_branches_76 ⟨by simp only [sp_Alu_branches, if_neg c_1, if_neg c_3, if_neg c_5, if_neg c_8, if_pos c_11, if_neg c_12], Or.inr rfl⟩
          · by_cases c_13 : x0 = 5
            · refine lv_tableIn (off := 76) (tgt := 77) hx hb d_Alu_branches_1 (by rw [c_13]; decide) (by rw [c_13]; decide) (by rw [c_13]; rfl) (by decide) ?_
              refine lv_iload_n hx hb d_Alu_branches_77 rfl (lv_at hl 1 rfl) ?_
              refine lv_iload_n hx hb d_Alu_branches_78 rfl (lv_at hl 2 rfl) ?_
              refine lv_icmp_lt (tgt := 86) hx hb d_Alu_branches_79 (by decide) (fun c_14 => ?_) (fun c_14 => ?_)
              · refine lv_iconst (v := 0) hx hb d_Alu_branches_86 rfl ?_
                exact rz () hx hb hr hlocks rfl hP hD hS d_Alu_branches_87 ⟨by simp only [sp_Alu_branches, if_neg c_1, if_neg c_3, if_neg c_5, if_neg c_8, if_neg c_11, if_pos c_13, if_pos c_14], Or.inl rfl⟩
              · refine lv_iconst (v := 1) hx hb d_Alu_branches_82 rfl ?_
                refine lv_goto (tgt := 87) hx hb d_Alu_branches_83 (by decide) ?_
                exact rz () hx hb hr hlocks rfl hP hD hS d_Alu_branches_87 ⟨by simp only [sp_Alu_branches, if_neg c_1, if_neg c_3, if_neg c_5, if_neg c_8, if_neg c_11, if_pos c_13, if_neg c_14], Or.inr rfl⟩
            · by_cases c_15 : x0 = 6
              · refine lv_tableIn (off := 87) (tgt := 88) hx hb d_Alu_branches_1 (by rw [c_15]; decide) (by rw [c_15]; decide) (by rw [c_15]; rfl) (by decide) ?_
                refine lv_iload_n hx hb d_Alu_branches_88 rfl (lv_at hl 1 rfl) ?_
                refine lv_iload_n hx hb d_Alu_branches_89 rfl (lv_at hl 2 rfl) ?_
                refine xi (wr := []) (W2 := fun _ => []) (xS (rest := []) ⟨hx, hb, hml, hown, hts⟩ (c_Alu_below x1 x2) mw_Alu_below ms_Alu_below k_97 ⟨rfl, rfl, Nat.le_of_ble_eq_true rfl, Nat.le_of_ble_eq_true rfl⟩ hK hP hD hS hA hF [] [] rfl rfl rfl rfl hl.1 rfl (Nat.le_of_ble_eq_true rfl) d_Alu_branches_90 ⟨Nat.zero_le _, Nat.zero_le _⟩) hP hD hS hA [] [] [] rfl rfl rfl (by decide) (fun _ => rfl) rfl (fun r_16 _ H locs h_16 hP hD hS => ?_)
                obtain ⟨h_16, z_16⟩ := h_16
                subst h_16
                exact rz () hx hb hr hlocks (nz z_16) hP hD hS d_Alu_branches_93 ⟨by simp only [sp_Alu_branches, if_neg c_1, if_neg c_3, if_neg c_5, if_neg c_8, if_neg c_11, if_neg c_13, if_pos c_15], z_16⟩
              · refine lv_tableOut (tgt := 94) hx hb d_Alu_branches_1 (by have := lv_neT (a := 0) c_1 rfl; have := lv_neT (a := 1) c_3 rfl; have := lv_neT (a := 2) c_5 rfl; have := lv_neT (a := 3) c_8 rfl; have := lv_neT (a := 4) c_11 rfl; have := lv_neT (a := 5) c_13 rfl; have := lv_neT (a := 6) c_15 rfl; omega) (by decide) ?_
                refine lv_iload_n hx hb d_Alu_branches_94 rfl (lv_at hl 1 rfl) ?_
                refine lv_iload_n hx hb d_Alu_branches_95 rfl (lv_at hl 2 rfl) ?_
                refine xi (wr := []) (W2 := fun _ => []) (xS (rest := []) ⟨hx, hb, hml, hown, hts⟩ (c_Alu_below x1 x2) mw_Alu_below ms_Alu_below k_97 ⟨rfl, rfl, Nat.le_of_ble_eq_true rfl, Nat.le_of_ble_eq_true rfl⟩ hK hP hD hS hA hF [] [] rfl rfl rfl rfl hl.1 rfl (Nat.le_of_ble_eq_true rfl) d_Alu_branches_96 ⟨Nat.zero_le _, Nat.zero_le _⟩) hP hD hS hA [] [] [] rfl rfl rfl (by decide) (fun _ => rfl) rfl (fun r_17 _ H locs h_17 hP hD hS => ?_)
                obtain ⟨h_17, z_17⟩ := h_17
                subst h_17
                refine lv_if_ne (tgt := 106) hx hb d_Alu_branches_99 (by decide) (fun c_18 => ?_) (fun c_18 => ?_)
                · refine lv_iconst (v := 0) hx hb d_Alu_branches_106 rfl ?_
                  exact rz () hx hb hr hlocks rfl hP hD hS d_Alu_branches_107 ⟨by simp only [sp_Alu_branches, if_neg c_1, if_neg c_3, if_neg c_5, if_neg c_8, if_neg c_11, if_neg c_13, if_neg c_15, if_neg c_18], Or.inl rfl⟩
                · refine lv_iconst (v := 1) hx hb d_Alu_branches_102 rfl ?_
                  refine lv_goto (tgt := 107) hx hb d_Alu_branches_103 (by decide) ?_
                  exact rz () hx hb hr hlocks rfl hP hD hS d_Alu_branches_107 ⟨by simp only [sp_Alu_branches, if_neg c_1, if_neg c_3, if_neg c_5, if_neg c_8, if_neg c_11, if_neg c_13, if_neg c_15, if_pos c_18], Or.inr rfl⟩
def sp_Field_branchOffset (x0 : Int32)  : Int32 :=
  ((((x0 >>> (31 &&& 31)) <<< (12 &&& 31)) ||| (((ush x0 25) &&& 63) <<< (5 &&& 31))) ||| (((ush x0 8) &&& 15) <<< (1 &&& 31))) ||| (((ush x0 7) &&& 1) <<< (11 &&& 31))
set_option maxHeartbeats 4000000 in
set_option maxRecDepth 100000 in
theorem c_Field_branchOffset {l : Launch} {D : va_G} {g : Nat → Nat}  (x0 : Int32)   : CT l D g y_Field_branchOffset b_Field_branchOffset 1 (some .int) (rD 0) [.int x0] ([]) ([]) (Qi D (fun (r : Int32) (_ : Unit) => sp_Field_branchOffset x0 = r) (fun _ => [])) := by
  refine CT.of rfl (Nat.le_of_ble_eq_true rfl) (fun p e s m below meth c A ls hx hb hr hml hts hown hlocks hA hP hK hD hF hS hl => ?_)
  have hl : lv_has ls 1 [(0, .int x0)] := hl
  refine lv_iload_n hx hb d_Field_branchOffset_0 rfl (lv_at hl 0 rfl) ?_
  refine lv_bipush (v := 31) hx hb d_Field_branchOffset_1 rfl ?_
  refine lv_ishr hx hb d_Field_branchOffset_3 ?_
  refine lv_bipush (v := 12) hx hb d_Field_branchOffset_4 rfl ?_
  refine lv_ishl hx hb d_Field_branchOffset_6 ?_
  refine lv_iload_n hx hb d_Field_branchOffset_7 rfl (lv_at hl 0 rfl) ?_
  refine lv_bipush (v := 25) hx hb d_Field_branchOffset_8 rfl ?_
  refine lv_iushr (v := ush x0 25) hx hb d_Field_branchOffset_10 rfl ?_
  refine lv_bipush (v := 63) hx hb d_Field_branchOffset_11 rfl ?_
  refine lv_iand hx hb d_Field_branchOffset_13 ?_
  refine lv_iconst (v := 5) hx hb d_Field_branchOffset_14 rfl ?_
  refine lv_ishl hx hb d_Field_branchOffset_15 ?_
  refine lv_ior hx hb d_Field_branchOffset_16 ?_
  refine lv_iload_n hx hb d_Field_branchOffset_17 rfl (lv_at hl 0 rfl) ?_
  refine lv_bipush (v := 8) hx hb d_Field_branchOffset_18 rfl ?_
  refine lv_iushr (v := ush x0 8) hx hb d_Field_branchOffset_20 rfl ?_
  refine lv_bipush (v := 15) hx hb d_Field_branchOffset_21 rfl ?_
  refine lv_iand hx hb d_Field_branchOffset_23 ?_
  refine lv_iconst (v := 1) hx hb d_Field_branchOffset_24 rfl ?_
  refine lv_ishl hx hb d_Field_branchOffset_25 ?_
  refine lv_ior hx hb d_Field_branchOffset_26 ?_
  refine lv_iload_n hx hb d_Field_branchOffset_27 rfl (lv_at hl 0 rfl) ?_
  refine lv_bipush (v := 7) hx hb d_Field_branchOffset_28 rfl ?_
  refine lv_iushr (v := ush x0 7) hx hb d_Field_branchOffset_30 rfl ?_
  refine lv_iconst (v := 1) hx hb d_Field_branchOffset_31 rfl ?_
  refine lv_iand hx hb d_Field_branchOffset_32 ?_
  refine lv_bipush (v := 11) hx hb d_Field_branchOffset_33 rfl ?_
  refine lv_ishl hx hb d_Field_branchOffset_35 ?_
  refine lv_ior hx hb d_Field_branchOffset_36 ?_
  exact ri () hx hb hr hlocks hP hD hS d_Field_branchOffset_37 (by simp only [sp_Field_branchOffset])
def sp_Field_jumpOffset (x0 : Int32)  : Int32 :=
  ((((x0 >>> (31 &&& 31)) <<< (20 &&& 31)) ||| (((ush x0 21) &&& 1023) <<< (1 &&& 31))) ||| (((ush x0 20) &&& 1) <<< (11 &&& 31))) ||| (x0 &&& 1044480)
set_option maxHeartbeats 4000000 in
set_option maxRecDepth 100000 in
theorem c_Field_jumpOffset {l : Launch} {D : va_G} {g : Nat → Nat}  (x0 : Int32)   : CT l D g y_Field_jumpOffset b_Field_jumpOffset 1 (some .int) (rD 0) [.int x0] ([]) ([]) (Qi D (fun (r : Int32) (_ : Unit) => sp_Field_jumpOffset x0 = r) (fun _ => [])) := by
  refine CT.of rfl (Nat.le_of_ble_eq_true rfl) (fun p e s m below meth c A ls hx hb hr hml hts hown hlocks hA hP hK hD hF hS hl => ?_)
  have hl : lv_has ls 1 [(0, .int x0)] := hl
  refine lv_iload_n hx hb d_Field_jumpOffset_0 rfl (lv_at hl 0 rfl) ?_
  refine lv_bipush (v := 31) hx hb d_Field_jumpOffset_1 rfl ?_
  refine lv_ishr hx hb d_Field_jumpOffset_3 ?_
  refine lv_bipush (v := 20) hx hb d_Field_jumpOffset_4 rfl ?_
  refine lv_ishl hx hb d_Field_jumpOffset_6 ?_
  refine lv_iload_n hx hb d_Field_jumpOffset_7 rfl (lv_at hl 0 rfl) ?_
  refine lv_bipush (v := 21) hx hb d_Field_jumpOffset_8 rfl ?_
  refine lv_iushr (v := ush x0 21) hx hb d_Field_jumpOffset_10 rfl ?_
  refine lv_sipush (v := 1023) hx hb d_Field_jumpOffset_11 rfl ?_
  refine lv_iand hx hb d_Field_jumpOffset_14 ?_
  refine lv_iconst (v := 1) hx hb d_Field_jumpOffset_15 rfl ?_
  refine lv_ishl hx hb d_Field_jumpOffset_16 ?_
  refine lv_ior hx hb d_Field_jumpOffset_17 ?_
  refine lv_iload_n hx hb d_Field_jumpOffset_18 rfl (lv_at hl 0 rfl) ?_
  refine lv_bipush (v := 20) hx hb d_Field_jumpOffset_19 rfl ?_
  refine lv_iushr (v := ush x0 20) hx hb d_Field_jumpOffset_21 rfl ?_
  refine lv_iconst (v := 1) hx hb d_Field_jumpOffset_22 rfl ?_
  refine lv_iand hx hb d_Field_jumpOffset_23 ?_
  refine lv_bipush (v := 11) hx hb d_Field_jumpOffset_24 rfl ?_
  refine lv_ishl hx hb d_Field_jumpOffset_26 ?_
  refine lv_ior hx hb d_Field_jumpOffset_27 ?_
  refine lv_iload_n hx hb d_Field_jumpOffset_28 rfl (lv_at hl 0 rfl) ?_
  refine lv_ldc (v := 1044480) hx hb hown (hts _ k_131) d_Field_jumpOffset_29 ?_
  refine lv_iand hx hb d_Field_jumpOffset_31 ?_
  refine lv_ior hx hb d_Field_jumpOffset_32 ?_
  exact ri () hx hb hr hlocks hP hD hS d_Field_jumpOffset_33 (by simp only [sp_Field_jumpOffset])
end
