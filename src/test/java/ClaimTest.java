/** Promise 5: words that are claimed, and words that are changed at once. */
public final class ClaimTest {
    private static final Check CHECK = new Check();
    private static final int DATA = Rig.RAM + 0x80;
    private static final int LR = Asm.atomic(2, 1, 2, 0);
    private static final int SC = Asm.atomic(3, 1, 2, 3);

    public static void main(String[] args) {
        claimAndStore();
        claimsThatAreNotJustIt();
        whatTakesClaims();
        whatLeavesClaims();
        otherHart();
        changes();
        sameRegisters();
        otherBits();
        traps();
        notThere();
        CHECK.end();
    }

    /** LR by hart 0, one instruction between, and then SC by hart 0: whether SC stores. */
    private static void between(String what, int word, int answer, boolean stores) {
        Rig rig = new Rig(CHECK, LR, word, SC).with(2, DATA).with(3, 55).with(4, DATA + 4).with(5, 0x02004000)
            .with(6, 0x10000000).with(7, DATA + 8).with(8, 0x02000004);
        rig.put(Rig.MTVEC, Rig.RAM + 8);
        rig.machine.poke(32, 9);
        rig.steps("LR", 0).holds("LR", 1, 9).steps(what, answer).steps(what, 0);
        rig.holds(what, 1, stores ? 0 : 1).keeps(what, 32, stores ? 55 : 9);
    }

    private static void claimAndStore() {
        between("nothing between", Asm.NOP, 0, true);
        Rig rig = new Rig(CHECK, LR, SC, SC).with(2, DATA).with(3, 55);
        rig.steps("LR", 0).holds("LR", 1, 0).steps("SC", 0).holds("SC", 1, 0).keeps("SC", 32, 55);
        rig.with(3, 66).steps("SC again", 0).holds("SC again", 1, 1).keeps("SC again", 32, 55);
        new Rig(CHECK, LR, SC).with(2, DATA).with(3, 0xFEDCBA98)
            .steps("LR", 0).steps("SC of a whole word", 0).keeps("SC of a whole word", 32, 0xFEDCBA98);
        new Rig(CHECK, SC).with(2, DATA).with(3, 55).steps("SC alone", 0).holds("SC alone", 1, 1)
            .keeps("SC alone", 32, 0);
    }

    private static void claimsThatAreNotJustIt() {
        between("another LR", Asm.atomic(2, 9, 4, 0), 0, false);
        between("LR of the same", Asm.atomic(2, 9, 2, 0), 0, true);
        between("SC elsewhere", Asm.atomic(3, 9, 4, 3), 0, false);
        Rig rig = new Rig(CHECK, LR, Asm.atomic(3, 9, 4, 3)).with(2, DATA).with(3, 55).with(4, DATA + 4);
        rig.steps("LR", 0).steps("SC elsewhere", 0).holds("SC elsewhere", 9, 1).keeps("SC elsewhere", 33, 0);
    }

    private static void whatTakesClaims() {
        between("sw to it", Asm.store(2, 9, 2, 4), 0, false);
        between("sw elsewhere", Asm.store(2, 9, 7, 0), 0, false);
        between("sh elsewhere", Asm.store(1, 9, 7, 0), 0, false);
        between("sb elsewhere", Asm.store(0, 9, 7, 0), 0, false);
        int[] kinds = {0, 1, 4, 8, 0xC, 0x10, 0x14, 0x18, 0x1C};
        for (int kind : kinds) {
            between("change elsewhere", Asm.atomic(kind, 9, 7, 3), 0, false);
        }
        between("trap", Asm.ECALL, 12, false);
        between("instruction that there is not", 0, 3, false);
        between("load that traps", Asm.load(2, 9, 2, 1), 5, false);
    }

    private static void whatLeavesClaims() {
        between("load", Asm.load(2, 9, 2, 0), 0, true);
        between("store to the clock", Asm.store(2, 9, 5, 0), 0, true);
        between("store to msip", Asm.store(2, 9, 8, 0), 0, true);
        between("store to the console", Asm.store(0, 9, 6, 0), 0, true);
        between("fence", 0x0FF0000F, 0, true);
        between("SFENCE", Asm.SFENCE, 0, true);
        between("csr", Asm.csr(1, 9, 9, 0x340), 0, true);
        Rig rig = new Rig(CHECK, LR, Asm.MRET, SC).with(2, DATA).with(3, 55).put(Rig.MEPC, Rig.RAM + 8);
        rig.steps("LR", 0).steps("MRET", 0).steps("SC", 0).holds("MRET leaves claims", 1, 0);
        rig = new Rig(CHECK, LR, SC).with(2, DATA).with(3, 55).steps("LR", 0);
        rig.machine.tick();
        rig.machine.put(0, Rig.MSCRATCH, 4);
        rig.machine.set(0, 5, 4);
        rig.machine.step(2);
        rig.steps("SC", 0).holds("calls leave claims", 1, 0);
    }

    /** Hart 0 claims; hart 1 does one instruction; hart 0 stores. */
    private static void otherDoes(String what, int word, int answer, boolean stores) {
        Rig rig = new Rig(CHECK, LR, SC).with(2, DATA).with(3, 55).steps("LR", 0);
        rig.machine.poke(0, word);
        rig.machine.set(1, 2, DATA);
        rig.machine.set(1, 3, 66);
        rig.machine.set(1, 4, DATA + 4);
        rig.stepsOther(what, answer).steps(what, 0).holds(what, 1, stores ? 0 : 1);
    }

    private static void otherHart() {
        otherDoes("LR of the other", LR, 0, true);
        otherDoes("SC of the other, that fails", SC, 0, true);
        otherDoes("load of the other", Asm.load(2, 1, 2, 0), 0, true);
        otherDoes("store of the other", Asm.store(0, 3, 4, 1), 0, false);
        otherDoes("change of the other", Asm.atomic(0, 1, 4, 3), 0, false);
        otherDoes("trap of the other", Asm.EBREAK, 4, false);
        Rig rig = new Rig(CHECK, LR, SC).with(2, DATA).with(3, 55).steps("LR", 0);
        rig.machine.set(1, 2, DATA + 4);
        rig.machine.set(1, 3, 66);
        rig.stepsOther("LR of the other", 0).stepsOther("SC of the other", 0);
        CHECK.due("SC of the other stores", rig.machine.register(1, 1), 0);
        rig.keeps("SC of the other", 33, 66).steps("SC", 0).holds("SC after that of the other", 1, 1);
        rig = new Rig(CHECK, LR, SC).with(2, DATA).with(3, 55).steps("LR", 0);
        rig.machine.set(1, 2, DATA);
        rig.stepsOther("LR of the other", 0).steps("SC", 0).holds("SC", 1, 0);
        rig.stepsOther("SC of the other", 0);
        CHECK.due("SC of the other, late", rig.machine.register(1, 1), 1);
        interruptTakesClaims();
    }

    private static void interruptTakesClaims() {
        Rig rig = new Rig(CHECK, LR, SC).with(2, DATA).with(3, 55).steps("LR", 0);
        rig.machine.put(1, Rig.MIE, 0x2);
        rig.machine.put(1, Rig.MIP, 0x2);
        rig.machine.put(1, Rig.MSTATUS, 0x8);
        rig.stepsOther("interrupt", 65).steps("SC", 0).holds("interrupt of the other takes claims", 1, 1);
    }

    private static void change(int kind, int old, int operand, int want) {
        String what = "0x2F, kind " + kind + ", " + old + ", " + operand;
        Rig rig = new Rig(CHECK, Asm.atomic(kind, 1, 2, 3)).with(2, DATA).with(3, operand);
        rig.machine.poke(31, 77);
        rig.machine.poke(32, old);
        rig.machine.poke(33, 88);
        rig.steps(what, 0).holds(what, 1, old).keeps(what, 32, want).stands(what, 3, Rig.RAM + 4);
        rig.keeps(what, 31, 77).keeps(what, 33, 88).holds(what, 3, operand);
    }

    private static void changes() {
        change(1, 5, -6, -6);
        change(0, Integer.MAX_VALUE, 1, Integer.MIN_VALUE);
        change(4, 6, 3, 5);
        change(0xC, 6, 3, 2);
        change(8, 6, 3, 7);
        change(0x10, -1, 1, -1);
        change(0x10, 1, -1, -1);
        change(0x14, -1, 1, 1);
        change(0x14, 1, -1, 1);
        change(0x18, -1, 1, 1);
        change(0x18, 1, -1, 1);
        change(0x1C, -1, 1, -1);
        change(0x1C, 1, -1, -1);
        change(0x1C, 4, 4, 4);
    }

    private static void sameRegisters() {
        Rig rig = new Rig(CHECK, Asm.atomic(0, 3, 2, 3)).with(2, DATA).with(3, 5);
        rig.machine.poke(32, 7);
        rig.steps("rd is rs2", 0).holds("rd is rs2", 3, 7).keeps("rd is rs2", 32, 12);
        rig = new Rig(CHECK, Asm.atomic(1, 2, 2, 2)).with(2, DATA);
        rig.steps("rd is rs1", 0).holds("rd is rs1", 2, 0).keeps("rd is rs1", 32, DATA);
        rig = new Rig(CHECK, Asm.atomic(2, 2, 2, 0), Asm.atomic(3, 3, 2, 3)).with(2, DATA).with(3, 5);
        rig.steps("LR", 0).with(2, DATA).steps("SC, rd is rs2", 0);
        rig.holds("SC, rd is rs2", 3, 0).keeps("SC, rd is rs2", 32, 5);
    }

    private static void otherBits() {
        for (int bits = 1; bits < 4; bits++) {
            Rig rig = new Rig(CHECK, LR | bits << 25, SC | bits << 25, Asm.atomic(0, 1, 2, 3) | bits << 25);
            rig.with(2, DATA).with(3, 5).steps("LR", 0).steps("SC", 0).holds("SC", 1, 0).keeps("SC", 32, 5);
            rig.steps("sum", 0).holds("sum", 1, 5).keeps("sum", 32, 10);
        }
    }

    private static void traps() {
        int[] changes = {3, 0, 1, 4, 8, 0xC, 0x10, 0x14, 0x18, 0x1C};
        int[] places = {0x02000000, 0x02004000, 0x0200BFF8, 0x10000000, 0, Rig.RAM + 4 * 4096, Rig.RAM - 4};
        for (int place : places) {
            new Rig(CHECK, LR).with(1, 6).with(2, place).traps("LR", 5, place).holds("LR", 1, 6);
            for (int kind : changes) {
                new Rig(CHECK, Asm.atomic(kind, 1, 2, 3)).with(1, 6).with(2, place)
                    .traps("kind " + kind, 7, place).holds("kind " + kind, 1, 6);
            }
        }
        for (int offset = 1; offset < 4; offset++) {
            new Rig(CHECK, LR).with(2, DATA + offset).traps("LR", 4, DATA + offset);
            new Rig(CHECK, LR).with(2, offset).traps("LR", 4, offset);
            for (int kind : changes) {
                new Rig(CHECK, Asm.atomic(kind, 1, 2, 3)).with(2, DATA + offset)
                    .traps("kind " + kind, 6, DATA + offset);
            }
        }
    }

    private static void notThere() {
        for (int rs2 = 1; rs2 < 32; rs2++) {
            int word = Asm.atomic(2, 1, 2, rs2);
            new Rig(CHECK, word).with(2, DATA).traps("LR, rs2 " + rs2, 2, word);
        }
        for (int kind = 0; kind < 32; kind++) {
            boolean there = kind < 4 || kind % 4 == 0;
            int word = Asm.atomic(kind, 1, 2, 0);
            Rig rig = new Rig(CHECK, word).with(2, DATA);
            if (there) {
                rig.steps("kind " + kind, 0);
            } else {
                rig.traps("kind " + kind, 2, word);
            }
        }
        for (int f3 = 0; f3 < 8; f3++) {
            if (f3 != 2) {
                int word = Asm.r(0x2F, 0, f3, 1, 2, 3);
                new Rig(CHECK, word).with(2, DATA).traps("f3 " + f3, 2, word).keeps("f3 " + f3, 32, 0);
            }
        }
    }
}
