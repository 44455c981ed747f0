/** A machine with a program in it, and the checks that many tests share. */
final class Rig {
    static final int RAM = 0x80000000;
    static final int MSTATUS = 0x300;
    static final int MEDELEG = 0x302;
    static final int MIDELEG = 0x303;
    static final int MIE = 0x304;
    static final int MTVEC = 0x305;
    static final int MSCRATCH = 0x340;
    static final int MEPC = 0x341;
    static final int MCAUSE = 0x342;
    static final int MTVAL = 0x343;
    static final int MIP = 0x344;
    static final int SSTATUS = 0x100;
    static final int SIE = 0x104;
    static final int STVEC = 0x105;
    static final int SSCRATCH = 0x140;
    static final int SEPC = 0x141;
    static final int SCAUSE = 0x142;
    static final int STVAL = 0x143;
    static final int SIP = 0x144;
    static final int SATP = 0x180;
    static final int HANDLER = RAM + 0x100;
    static final int LOWER_HANDLER = RAM + 0x200;

    final TwinHart machine;
    private final Check check;

    Rig(Check check, int... program) {
        this(check, 4096, program);
    }

    private Rig(Check check, int words, int[] program) {
        this.check = check;
        machine = new TwinHart(words);
        for (int k = 0; k < program.length; k++) {
            machine.poke(k, program[k]);
        }
        for (int hart = 0; hart < 2; hart++) {
            machine.put(hart, MTVEC, HANDLER);
            machine.put(hart, STVEC, LOWER_HANDLER);
        }
    }

    static Rig ofWords(Check check, int words, int... program) {
        return new Rig(check, words, program);
    }

    Rig with(int i, int v) {
        machine.set(0, i, v);
        return this;
    }

    Rig put(int number, int v) {
        machine.put(0, number, v);
        return this;
    }

    /** Hart 0, still at its beginning, goes to a level and on at an address; its CSR stay. */
    Rig at(int level, int pc) {
        int first = machine.peek(0);
        int status = machine.csr(0, MSTATUS);
        int mepc = machine.csr(0, MEPC);
        machine.poke(0, Asm.MRET);
        machine.put(0, MSTATUS, level << 11);
        machine.put(0, MEPC, pc);
        machine.step(0);
        machine.poke(0, first);
        machine.put(0, MSTATUS, status);
        machine.put(0, MEPC, mepc);
        return this;
    }

    Rig steps(String what, int want) {
        check.due(what + ": step(0)", machine.step(0), want);
        return this;
    }

    Rig stepsOther(String what, int want) {
        check.due(what + ": step(1)", machine.step(1), want);
        return this;
    }

    Rig holds(String what, int i, int want) {
        check.due(what + ": register(0, " + i + ")", machine.register(0, i), want);
        return this;
    }

    Rig reads(String what, int number, int want) {
        check.due(what + ": csr(0, 0x" + Integer.toHexString(number) + ")", machine.csr(0, number), want);
        return this;
    }

    Rig stands(String what, int level, int pc) {
        check.due(what + ": level(0)", machine.level(0), level);
        check.due(what + ": pc(0)", machine.pc(0), pc);
        return this;
    }

    Rig keeps(String what, int k, int want) {
        check.due(what + ": peek(" + k + ")", machine.peek(k), want);
        return this;
    }

    /** A step that traps to M: the answer, and all that the trap leaves behind. */
    Rig traps(String what, int cause, int tval) {
        int pc = machine.pc(0);
        int level = machine.level(0);
        steps(what, 1 + cause);
        stands(what, 3, HANDLER);
        reads(what, MEPC, pc);
        reads(what, MCAUSE, cause);
        reads(what, MTVAL, tval);
        check.due(what + ": MPP", machine.csr(0, MSTATUS) >> 11 & 3, level);
        return this;
    }

    /** A step that traps to S. */
    Rig trapsLower(String what, int cause, int tval) {
        int pc = machine.pc(0);
        int level = machine.level(0);
        steps(what, 1 + cause);
        stands(what, 1, LOWER_HANDLER);
        reads(what, SEPC, pc);
        reads(what, SCAUSE, cause);
        reads(what, STVAL, tval);
        check.due(what + ": SPP", machine.csr(0, MSTATUS) >> 8 & 1, level == 1 ? 1 : 0);
        return this;
    }
}
