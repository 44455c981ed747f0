/** Promises 5 and 6: interrupts that are due, and the clock that tick moves. */
public final class InterruptTest {
    private static final Check CHECK = new Check();
    private static final int MIE_BIT = 0x8;
    private static final int SIE_BIT = 0x2;

    public static void main(String[] args) {
        rightsOfTheFirstGroup();
        rightsOfTheSecondGroup();
        order();
        firstGroupFirst();
        leavesBehind();
        softwareInterrupts();
        clock();
        clockWithoutSigns();
        tickCarries();
        CHECK.end();
    }

    private static Rig waiting(int level, int status, int mideleg, int bits) {
        return new Rig(CHECK, Asm.NOP, Asm.NOP).at(level, Rig.RAM).put(Rig.MSTATUS, status).put(Rig.MIDELEG, mideleg)
            .put(Rig.MIP, bits).put(Rig.MIE, bits);
    }

    private static void rightsOfTheFirstGroup() {
        int[] causes = {1, 5, 9};
        for (int cause : causes) {
            waiting(3, 0, 0, 1 << cause).steps("M without MIE", 0);
            waiting(3, SIE_BIT, 0, 1 << cause).steps("M with SIE", 0);
            waiting(3, MIE_BIT, 0, 1 << cause).steps("M with MIE", 64 + cause).stands("M", 3, Rig.HANDLER);
            for (int level = 0; level < 2; level++) {
                waiting(level, 0, ~(1 << cause), 1 << cause).steps("below M", 64 + cause).stands("M", 3, Rig.HANDLER);
            }
            waiting(0, 0, 0, 1 << cause).put(Rig.MIE, ~(1 << cause)).steps("mie is 0", 0);
            waiting(0, 0, 0, 1 << cause).put(Rig.MIP, 0).steps("mip is 0", 0);
        }
    }

    private static void rightsOfTheSecondGroup() {
        int[] causes = {1, 5, 9};
        for (int cause : causes) {
            int bit = 1 << cause;
            waiting(3, MIE_BIT | SIE_BIT, bit, bit).steps("handed down, at M", 0);
            waiting(1, MIE_BIT, bit, bit).steps("handed down, S without SIE", 0);
            waiting(1, SIE_BIT, bit, bit).steps("handed down, S", 64 + cause).stands("S", 1, Rig.LOWER_HANDLER);
            waiting(0, 0, bit, bit).steps("handed down, U", 64 + cause).stands("S", 1, Rig.LOWER_HANDLER);
        }
    }

    private static void setLines(TwinHart machine) {
        // hart 1 makes the interrupts 3 and 7 of hart 0
        machine.poke(0x100, Asm.store(2, 1, 2, 0));
        machine.poke(0x101, Asm.store(2, 0, 3, 0));
        machine.poke(0x102, Asm.store(2, 0, 3, 4));
        int kept = machine.peek(0);
        machine.poke(0, Asm.jal(0, 0x400));
        machine.set(1, 1, 1);
        machine.set(1, 2, 0x02000000);
        machine.set(1, 3, 0x02004000);
        for (int i = 0; i < 4; i++) {
            machine.step(1);
        }
        machine.poke(0, kept);
    }

    private static void order() {
        int[] order = {3, 7, 9, 1, 5};
        int enabled = 0xAAA;
        for (int cause : order) {
            Rig rig = waiting(0, 0, 0, 0x222);
            setLines(rig.machine);
            rig.put(Rig.MIE, enabled).steps("order", 64 + cause).reads("order", Rig.MCAUSE, 0x80000000 | cause);
            enabled &= ~(1 << cause);
        }
        Rig rig = waiting(0, 0, 0, 0x222);
        setLines(rig.machine);
        rig.put(Rig.MIE, enabled).steps("none left", 0);
        waiting(0, 0, 0x222, 0x222).steps("order at S", 73);
        waiting(0, 0, 0x222, 0x022).steps("order at S", 65);
        waiting(0, 0, 0x222, 0x020).steps("order at S", 69);
    }

    private static void firstGroupFirst() {
        waiting(0, 0, 0x200, 0x222).steps("first group", 65).stands("first group", 3, Rig.HANDLER);
        waiting(0, 0, 0x202, 0x222).steps("first group", 69).stands("first group", 3, Rig.HANDLER);
        waiting(1, 0, 0x200, 0x222).steps("first group at S", 65);
        waiting(3, SIE_BIT, 0x200, 0x222).steps("none at M", 0);
        waiting(3, MIE_BIT, 0x202, 0x222).steps("first group at M", 69);
        Rig rig = waiting(0, 0, -1, 0x222);
        setLines(rig.machine);
        rig.put(Rig.MIE, 0x2AA).steps("3 is never handed down", 67).stands("3", 3, Rig.HANDLER);
    }

    private static void leavesBehind() {
        Rig rig = waiting(1, 0xC01AA, 0, 0x2).put(Rig.MTVAL, 5).with(1, 4);
        rig.steps("at M", 65).stands("at M", 3, Rig.HANDLER).reads("at M", Rig.MEPC, Rig.RAM);
        rig.reads("at M", Rig.MCAUSE, 0x80000001).reads("at M", Rig.MTVAL, 0);
        rig.reads("at M", Rig.MSTATUS, 0xC01A2 | 0x800).reads("at M", Rig.MIP, 2).reads("at M", Rig.MIE, 2);
        rig = waiting(1, 0x18AA, 0x20, 0x20).put(Rig.STVAL, 5);
        rig.steps("at S", 69).stands("at S", 1, Rig.LOWER_HANDLER).reads("at S", Rig.SEPC, Rig.RAM);
        rig.reads("at S", Rig.SCAUSE, 0x80000005).reads("at S", Rig.STVAL, 0);
        rig.reads("at S", Rig.MSTATUS, 0x19A8).reads("at S", Rig.MCAUSE, 0);
        rig = new Rig(CHECK, Asm.opImmediate(0, 1, 0, 5)).put(Rig.MIP, 2).put(Rig.MIE, 2).put(Rig.MSTATUS, MIE_BIT);
        rig.steps("instead of an instruction", 65).holds("instead of an instruction", 1, 0);
        waiting(0, 0, 0, 2).put(Rig.MEDELEG, -1).steps("medeleg is of traps alone", 65)
            .stands("medeleg", 3, Rig.HANDLER);
    }

    private static void softwareInterrupts() {
        Rig rig = new Rig(CHECK, Asm.store(2, 1, 2, 0), Asm.NOP).with(1, 1).with(2, 0x02000004);
        rig.steps("msip of the other", 0).reads("mip", Rig.MIP, 0);
        CHECK.due("mip of hart 1", rig.machine.csr(1, Rig.MIP), 8);
        rig.machine.put(1, Rig.MIE, 8);
        rig.machine.put(1, Rig.MSTATUS, 8);
        rig.stepsOther("msip", 67);
        CHECK.due("mcause of hart 1", rig.machine.csr(1, Rig.MCAUSE), 0x80000003);
        rig = new Rig(CHECK, Asm.store(2, 1, 2, 0)).with(1, 1).with(2, 0x02000000).steps("own msip", 0);
        rig.reads("own msip", Rig.MIP, 8);
        CHECK.due("mip of hart 1", rig.machine.csr(1, Rig.MIP), 0);
        rig.put(Rig.MIP, 0).reads("bit 3 is not written", Rig.MIP, 8);
    }

    private static void clock() {
        Rig rig = new Rig(CHECK, Asm.store(2, 1, 2, 0), Asm.store(2, 0, 2, 4), Asm.load(2, 3, 4, 0), Asm.NOP)
            .with(1, 3).with(2, 0x02004000).with(4, 0x0200BFF8);
        rig.steps("mtimecmp", 0).steps("mtimecmp", 0).reads("time 0", Rig.MIP, 0);
        rig.machine.tick();
        rig.machine.tick();
        rig.reads("time 2", Rig.MIP, 0);
        rig.machine.tick();
        rig.reads("time 3", Rig.MIP, 0x80).put(Rig.MIP, 0).reads("bit 7 is not written", Rig.MIP, 0x80);
        CHECK.due("mip of hart 1", rig.machine.csr(1, Rig.MIP), 0);
        rig.steps("mtime", 0).holds("mtime", 3, 3);
        rig.machine.tick();
        rig.reads("time 4", Rig.MIP, 0x80).put(Rig.MIE, 0x80).put(Rig.MSTATUS, 8).steps("timer", 71);
        rig.reads("timer", Rig.MCAUSE, 0x80000007);
        rig = new Rig(CHECK, Asm.store(2, 0, 2, 0), Asm.store(2, 0, 2, 4)).with(2, 0x02004008);
        rig.steps("mtimecmp of hart 1", 0).steps("mtimecmp of hart 1", 0).reads("hart 0", Rig.MIP, 0);
        CHECK.due("mip of hart 1", rig.machine.csr(1, Rig.MIP), 0x80);
    }

    private static void compare(int timeHigh, int timeLow, int cmpHigh, int cmpLow, int want) {
        for (int hart = 0; hart < 2; hart++) {
            Rig rig = new Rig(CHECK, Asm.store(2, 1, 5, 0), Asm.store(2, 2, 5, 4), Asm.store(2, 3, 6, 0),
                Asm.store(2, 4, 6, 4)).with(1, timeLow).with(2, timeHigh).with(3, cmpLow).with(4, cmpHigh)
                .with(5, 0x0200BFF8).with(6, 0x02004000 + 8 * hart);
            rig.steps("store", 0).steps("store", 0).steps("store", 0).steps("store", 0);
            String what = "time " + timeHigh + " " + timeLow + ", cmp " + cmpHigh + " " + cmpLow;
            CHECK.due(what + ": mip of hart " + hart, rig.machine.csr(hart, Rig.MIP), want);
            CHECK.due(what + ": mip of the other", rig.machine.csr(1 - hart, Rig.MIP), otherMip(timeHigh, timeLow));
        }
    }

    /** mtimecmp of the other hart is still all ones. */
    private static int otherMip(int timeHigh, int timeLow) {
        return timeHigh == -1 && timeLow == -1 ? 0x80 : 0;
    }

    private static void clockWithoutSigns() {
        compare(0, 5, 0, 5, 0x80);
        compare(0, 4, 0, 5, 0);
        compare(0, -1, 0, 5, 0x80);
        compare(0, 5, 0, -1, 0);
        compare(-1, 0, 1, 0, 0x80);
        compare(1, 0, -1, 0, 0);
        compare(1, 0, 0, -1, 0x80);
        compare(0, -1, 1, 0, 0);
        compare(-1, -1, -1, -1, 0x80);
        compare(-1, -2, -1, -1, 0);
    }

    private static void tickCarries() {
        int[][] moves = {{-1, 0, 0, 1}, {-1, -1, 0, 0}, {0x7FFFFFFF, 4, 0x80000000, 4}};
        for (int[] move : moves) {
            Rig rig = new Rig(CHECK, Asm.store(2, 1, 5, 0), Asm.store(2, 2, 5, 4), Asm.load(2, 3, 5, 0),
                Asm.load(2, 4, 5, 4)).with(1, move[0]).with(2, move[1]).with(5, 0x0200BFF8);
            rig.steps("store", 0).steps("store", 0);
            rig.machine.tick();
            rig.steps("load", 0).steps("load", 0).holds("lower word", 3, move[2]).holds("upper word", 4, move[3]);
        }
        Rig rig = new Rig(CHECK, Asm.NOP, Asm.load(2, 3, 5, 0)).with(5, 0x0200BFF8);
        rig.steps("nop", 0).steps("load", 0).holds("steps do not tick", 3, 0);
    }
}
