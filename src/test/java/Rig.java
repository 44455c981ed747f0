/** A machine with a program in it, one of its harts to look at, and the checks that many tests share. */
final class Rig {
    static final int RAM = 0x80000000;
    static final int MSTATUS = 0x300;
    static final int MEDELEG = 0x302;
    static final int MIDELEG = 0x303;
    static final int MIE = 0x304;
    static final int MTVEC = 0x305;
    static final int MSCRATCH = 0x340;
    static final int MEPC = 0x341;
    static final int MCAUSE = 0x342;
    static final int MTVAL = 0x343;
    static final int MIP = 0x344;
    static final int SSTATUS = 0x100;
    static final int SIE = 0x104;
    static final int STVEC = 0x105;
    static final int SSCRATCH = 0x140;
    static final int SEPC = 0x141;
    static final int SCAUSE = 0x142;
    static final int STVAL = 0x143;
    static final int SIP = 0x144;
    static final int SATP = 0x180;
    static final int HANDLER = RAM + 0x100;
    static final int LOWER_HANDLER = RAM + 0x200;

    final TwinHart machine;
    private final Check check;
    private int hart = 0;

    Rig(Check check, int... program) {
        this(check, 4096, program);
    }

    private Rig(Check check, int words, int[] program) {
        this.check = check;
        machine = new TwinHart(words);
        for (int k = 0; k < program.length; k++) {
            machine.poke(k, program[k]);
        }
        for (int each = 0; each < 2; each++) {
            machine.put(each, MTVEC, HANDLER);
            machine.put(each, STVEC, LOWER_HANDLER);
        }
    }

    static Rig ofWords(Check check, int words, int... program) {
        return new Rig(check, words, program);
    }

    /** From here on, all that is done and asked is of this hart. */
    Rig onHart(int which) {
        hart = which;
        return this;
    }

    Rig with(int i, int v) {
        machine.set(hart, i, v);
        return this;
    }

    Rig put(int number, int v) {
        machine.put(hart, number, v);
        return this;
    }

    Rig poke(int k, int word) {
        machine.poke(k, word);
        return this;
    }

    /** The hart, still at its beginning, goes to a level and on at an address; its CSR stay. */
    Rig at(int level, int pc) {
        int first = machine.peek(0);
        int status = machine.csr(hart, MSTATUS);
        int mepc = machine.csr(hart, MEPC);
        machine.poke(0, Asm.MRET);
        machine.put(hart, MSTATUS, level << 11);
        machine.put(hart, MEPC, pc);
        machine.step(hart);
        machine.poke(0, first);
        machine.put(hart, MSTATUS, status);
        machine.put(hart, MEPC, mepc);
        return this;
    }

    Rig steps(String what, int want) {
        check.due(what + ": step(" + hart + ")", machine.step(hart), want);
        return this;
    }

    Rig stepsOther(String what, int want) {
        check.due(what + ": step(" + (1 - hart) + ")", machine.step(1 - hart), want);
        return this;
    }

    Rig holds(String what, int i, int want) {
        check.due(what + ": register(" + hart + ", " + i + ")", machine.register(hart, i), want);
        return this;
    }

    Rig reads(String what, int number, int want) {
        String call = ": csr(" + hart + ", 0x" + Integer.toHexString(number) + ")";
        check.due(what + call, machine.csr(hart, number), want);
        return this;
    }

    Rig stands(String what, int level, int pc) {
        check.due(what + ": level(" + hart + ")", machine.level(hart), level);
        check.due(what + ": pc(" + hart + ")", machine.pc(hart), pc);
        return this;
    }

    Rig keeps(String what, int k, int want) {
        check.due(what + ": peek(" + k + ")", machine.peek(k), want);
        return this;
    }

    Rig printed(String what, int want) {
        check.due(what + ": size()", machine.size(), want);
        return this;
    }

    /** A step that traps to M: the answer, and all that the trap leaves behind. */
    Rig traps(String what, int cause, int tval) {
        int pc = machine.pc(hart);
        int level = machine.level(hart);
        steps(what, 1 + cause);
        stands(what, 3, HANDLER);
        reads(what, MEPC, pc);
        reads(what, MCAUSE, cause);
        reads(what, MTVAL, tval);
        check.due(what + ": MPP", machine.csr(hart, MSTATUS) >> 11 & 3, level);
        return this;
    }

    /** A step that traps to S. */
    Rig trapsLower(String what, int cause, int tval) {
        int pc = machine.pc(hart);
        int level = machine.level(hart);
        steps(what, 1 + cause);
        stands(what, 1, LOWER_HANDLER);
        reads(what, SEPC, pc);
        reads(what, SCAUSE, cause);
        reads(what, STVAL, tval);
        check.due(what + ": SPP", machine.csr(hart, MSTATUS) >> 8 & 1, level == 1 ? 1 : 0);
        return this;
    }
}
