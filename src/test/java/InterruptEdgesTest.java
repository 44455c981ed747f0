/** Terms, INTERRUPTS and TAKEN: each sentence that names an edge, with a test of its own. */
public final class InterruptEdgesTest {
    private static final Check CHECK = new Check();
    private static final int MIE_BIT = 0x8;
    private static final int SIE_BIT = 0x2;
    private static final int[] ORDER = {3, 7, 9, 1, 5};
    private static final int[] WRITTEN = {1, 5, 9};
    private static final int[] LEVELS = {0, 1, 3};
    private static final int ALL_STATUS = 0xE19AA;
    private static final int CLAIMED = Rig.RAM + 0x80;

    public static void main(String[] args) {
        ofMipAndMie();
        firstGroup();
        secondGroup();
        firstGroupFirst();
        order();
        bitThirtyOne();
        whereTrapsAreTaken();
        whereInterruptsAreTaken();
        whatSupervisorNotes();
        statusOfSupervisor();
        levelAndPcOfSupervisor();
        machineInTheSameWay();
        claims();
        CHECK.end();
    }

    /** Hart 0 at a level, all five interrupts there to be had: hart 1 has made 3 and 7, 1, 5 and 9 are written. */
    private static Rig all(int level) {
        Rig rig = new Rig(CHECK, Asm.store(2, 1, 2, 0), Asm.store(2, 0, 3, 0), Asm.store(2, 0, 3, 4)).onHart(1);
        rig.with(1, 1).with(2, 0x02000000).with(3, 0x02004000);
        rig.steps("msip", 0).steps("mtimecmp", 0).steps("mtimecmp", 0);
        return rig.onHart(0).poke(0, Asm.NOP).at(level, Rig.RAM).put(Rig.MIP, 0x222);
    }

    private static Rig waiting(int level, int status, int mideleg, int bits) {
        return all(level).put(Rig.MSTATUS, status).put(Rig.MIDELEG, mideleg).put(Rig.MIE, bits);
    }

    private static void ofMipAndMie() {
        CHECK.sentence("INTERRUPTS due: those of mip and mie");
        for (int cause : ORDER) {
            waiting(0, 0, 0, 1 << cause).steps("both", 64 + cause);
            waiting(0, 0, 0, 0).steps("mip alone", 0);
            new Rig(CHECK, Asm.NOP).at(0, Rig.RAM).put(Rig.MIE, 1 << cause).steps("mie alone", 0);
            new Rig(CHECK, Asm.NOP).at(0, Rig.RAM).put(Rig.MIE, ~(1 << cause)).put(Rig.MIP, 1 << cause)
                .steps("mip of one, mie of others", 0);
        }
        new Rig(CHECK, Asm.NOP).at(0, Rig.RAM).put(Rig.MIE, -1).put(Rig.MIP, 0).steps("all of mie, none of mip", 0);
        new Rig(CHECK, Asm.NOP).at(0, Rig.RAM).put(Rig.MIE, 0x800).put(Rig.MIP, -1).steps("11 is never there", 0);
    }

    private static void firstGroup() {
        CHECK.sentence("of those whose bit in mideleg is 0: at a level below M, or at M with MIE");
        for (int cause : ORDER) {
            int bit = 1 << cause;
            for (int level = 0; level < 2; level++) {
                waiting(level, 0, ~bit, bit).steps("below M", 64 + cause).stands("below M", 3, Rig.HANDLER);
                waiting(level, MIE_BIT, ~bit, bit).steps("below M, MIE", 64 + cause);
            }
            waiting(3, 0, ~bit, bit).steps("M without MIE", 0).stands("M without MIE", 3, Rig.RAM + 4);
            waiting(3, ALL_STATUS & ~MIE_BIT, ~bit, bit).steps("M, all but MIE", 0);
            waiting(3, MIE_BIT, ~bit, bit).steps("M with MIE", 64 + cause).stands("M with MIE", 3, Rig.HANDLER);
        }
    }

    private static void secondGroup() {
        CHECK.sentence("of the others: at a level below S, or at S with SIE");
        for (int cause : WRITTEN) {
            int bit = 1 << cause;
            waiting(0, 0, bit, bit).steps("U", 64 + cause).stands("U", 1, Rig.LOWER_HANDLER);
            waiting(0, SIE_BIT, bit, bit).steps("U, SIE", 64 + cause).stands("U, SIE", 1, Rig.LOWER_HANDLER);
            waiting(1, 0, bit, bit).steps("S without SIE", 0).stands("S without SIE", 1, Rig.RAM + 4);
            waiting(1, ALL_STATUS & ~SIE_BIT, bit, bit).steps("S, all but SIE", 0);
            waiting(1, SIE_BIT, bit, bit).steps("S with SIE", 64 + cause).stands("S with SIE", 1, Rig.LOWER_HANDLER);
            waiting(3, 0, bit, bit).steps("M", 0);
            waiting(3, ALL_STATUS, bit, bit).steps("M with all", 0).stands("M with all", 3, Rig.RAM + 4);
        }
    }

    private static void firstGroupFirst() {
        CHECK.sentence("The first group first");
        for (int first : ORDER) {
            for (int second : WRITTEN) {
                if (first != second) {
                    int bits = 1 << first | 1 << second;
                    String what = first + " before " + second;
                    waiting(0, 0, 1 << second, bits).steps(what, 64 + first).stands(what, 3, Rig.HANDLER);
                    waiting(1, SIE_BIT, 1 << second, bits).steps(what, 64 + first).stands(what, 3, Rig.HANDLER);
                    waiting(1, 0, 1 << second, bits).steps(what, 64 + first).stands(what, 3, Rig.HANDLER);
                    waiting(3, MIE_BIT, 1 << second, bits).steps(what, 64 + first).stands(what, 3, Rig.HANDLER);
                    waiting(3, SIE_BIT, 1 << second, bits).steps(what + ", none at M", 0);
                }
            }
        }
    }

    private static void order() {
        CHECK.sentence("in a group 3, 7, 9, 1, 5 in this order");
        int left = 0xAAA;
        for (int i = 0; i < ORDER.length; i++) {
            waiting(0, 0, 0, left).steps("those that are left", 64 + ORDER[i]);
            left &= ~(1 << ORDER[i]);
            for (int k = i + 1; k < ORDER.length; k++) {
                int bits = 1 << ORDER[i] | 1 << ORDER[k];
                String what = ORDER[i] + " before " + ORDER[k];
                waiting(0, 0, 0, bits).steps(what, 64 + ORDER[i]);
                waiting(3, MIE_BIT, 0, bits).steps(what + " at M", 64 + ORDER[i]);
                if (i > 1) {
                    waiting(0, 0, bits, bits).steps(what + " to S", 64 + ORDER[i]).stands(what, 1, Rig.LOWER_HANDLER);
                }
            }
        }
        waiting(0, 0, 0, left).steps("none is left", 0);
    }

    private static void bitThirtyOne() {
        CHECK.sentence("The cause has bit 31, too; tval 0.");
        for (int cause : ORDER) {
            waiting(1, 0, 0, 1 << cause).put(Rig.MTVAL, 5).steps("at M", 64 + cause)
                .reads("at M", Rig.MCAUSE, 0x80000000 + cause).reads("at M", Rig.MTVAL, 0);
        }
        for (int cause : WRITTEN) {
            waiting(0, 0, -1, 1 << cause).put(Rig.STVAL, 5).steps("at S", 64 + cause)
                .reads("at S", Rig.SCAUSE, 0x80000000 + cause).reads("at S", Rig.STVAL, 0);
        }
    }

    /** One trap of each cause that needs no pages. */
    private static Rig cause(int cause, int level, int medeleg) {
        int[] words = {Asm.jal(0, 2), 0, 0, Asm.EBREAK, Asm.load(2, 1, 0, 1), Asm.load(2, 1, 0, 0),
            Asm.store(2, 1, 0, 1), Asm.store(2, 1, 0, 0), Asm.ECALL, Asm.ECALL, 0, Asm.ECALL};
        int pc = cause == 1 ? 0x40000000 : Rig.RAM + 4 * cause;
        return new Rig(CHECK, words).put(Rig.MEDELEG, medeleg).at(level, pc);
    }

    private static int valueOf(int cause) {
        int[] values = {Rig.RAM + 2, 0x40000000, 0, Rig.RAM + 12, 1, 0, 1, 0, 0, 0, 0, 0};
        return values[cause];
    }

    private static void whereTrapsAreTaken() {
        CHECK.sentence("a trap at U or S whose bit in medeleg is 1");
        for (int cause = 0; cause < 12; cause++) {
            for (int level : LEVELS) {
                boolean there = cause < 8 || cause == 8 + level;
                String what = "cause " + cause + " at level " + level;
                if (there && level < 3) {
                    cause(cause, level, 1 << cause).trapsLower(what, cause, valueOf(cause));
                    cause(cause, level, -1).trapsLower(what, cause, valueOf(cause));
                }
                if (there) {
                    cause(cause, level, level < 3 ? ~(1 << cause) : -1).traps(what, cause, valueOf(cause));
                    cause(cause, level, 0).put(Rig.MIDELEG, -1).traps(what, cause, valueOf(cause));
                }
            }
        }
    }

    private static void whereInterruptsAreTaken() {
        CHECK.sentence("an interrupt of the second group: at S");
        for (int cause : WRITTEN) {
            waiting(0, 0, 1 << cause, 1 << cause).steps("second group", 64 + cause)
                .stands("second", 1, Rig.LOWER_HANDLER);
            waiting(0, 0, ~(1 << cause), 1 << cause).put(Rig.MEDELEG, -1).steps("first group", 64 + cause)
                .stands("first group", 3, Rig.HANDLER);
        }
        for (int cause : ORDER) {
            if (cause == 3 || cause == 7) {
                waiting(0, 0, -1, 1 << cause).steps("never handed down", 64 + cause).stands("never", 3, Rig.HANDLER);
            }
        }
    }

    private static void whatSupervisorNotes() {
        CHECK.sentence("sepc, scause, stval are pc, cause, tval");
        int word = Asm.op(2, 0, 1, 2, 3);
        for (int level = 0; level < 2; level++) {
            new Rig(CHECK, Asm.NOP, word).put(Rig.MEDELEG, -1).put(Rig.MEPC, 8).put(Rig.MCAUSE, 9).put(Rig.MTVAL, 10)
                .at(level, Rig.RAM + 4).steps("trap", 3).reads("trap", Rig.SEPC, Rig.RAM + 4)
                .reads("trap", Rig.SCAUSE, 2)
                .reads("trap", Rig.STVAL, word).reads("trap", Rig.MEPC, 8).reads("trap", Rig.MCAUSE, 9)
                .reads("trap", Rig.MTVAL, 10);
        }
        waiting(0, 0, 2, 2).put(Rig.STVAL, 5).put(Rig.MEPC, 8).steps("interrupt", 65)
            .reads("interrupt", Rig.SEPC, Rig.RAM)
            .reads("interrupt", Rig.SCAUSE, 0x80000001).reads("interrupt", Rig.STVAL, 0)
            .reads("interrupt", Rig.MEPC, 8);
    }

    private static void statusOfSupervisor() {
        CHECK.sentence("SPP is 1 if the level was S, else 0; SPIE becomes SIE, SIE 0");
        for (int level = 0; level < 2; level++) {
            int spp = level << 8;
            int[][] moves = {{0, spp}, {0x2, 0x20 | spp}, {0x20, spp}, {0x22, 0x20 | spp}, {0x100, spp},
                {0x188, 0x88 | spp}, {ALL_STATUS, ALL_STATUS & ~0x102 | spp},
                {ALL_STATUS & ~2, ALL_STATUS & ~0x122 | spp}};
            for (int[] move : moves) {
                String what = "mstatus " + Integer.toHexString(move[0]) + " at level " + level;
                new Rig(CHECK, Asm.ECALL).at(level, Rig.RAM).put(Rig.MEDELEG, 0x300).put(Rig.MSTATUS, move[0])
                    .steps(what, 9 + level).reads(what, Rig.MSTATUS, move[1]);
                if (level == 0 || (move[0] & 2) != 0) {
                    waiting(level, move[0], 2, 2).steps(what, 65).reads(what, Rig.MSTATUS, move[1]);
                }
            }
        }
    }

    private static void levelAndPcOfSupervisor() {
        CHECK.sentence("the level is S; pc is stvec");
        int[] places = {0, 0x80000040, -4, 0x40000000};
        for (int place : places) {
            for (int level = 0; level < 2; level++) {
                new Rig(CHECK, Asm.ECALL).at(level, Rig.RAM).put(Rig.MEDELEG, -1).put(Rig.STVEC, place)
                    .steps("trap", 9 + level).stands("trap", 1, place);
            }
            waiting(0, 0, 2, 2).put(Rig.STVEC, place).steps("interrupt", 65).stands("interrupt", 1, place);
        }
    }

    private static void machineInTheSameWay() {
        CHECK.sentence("Else at M in the same way: mepc, mcause, mtval, MPP the level, MPIE, MIE, mtvec.");
        for (int level : LEVELS) {
            int mpp = level << 11;
            int[][] moves = {{0, mpp}, {0x8, 0x80 | mpp}, {0x80, mpp}, {0x88, 0x80 | mpp}, {0x1800, mpp},
                {0x122, 0x122 | mpp}, {ALL_STATUS, ALL_STATUS & ~0x1808 | mpp},
                {ALL_STATUS & ~8, ALL_STATUS & ~0x1888 | mpp}};
            for (int[] move : moves) {
                String what = "mstatus " + Integer.toHexString(move[0]) + " at level " + level;
                new Rig(CHECK, Asm.ECALL).at(level, Rig.RAM).put(Rig.MTVAL, 5).put(Rig.SEPC, 8).put(Rig.SCAUSE, 9)
                    .put(Rig.STVAL, 10).put(Rig.MSTATUS, move[0]).put(Rig.MTVEC, -4).steps(what, 9 + level)
                    .reads(what, Rig.MSTATUS, move[1]).reads(what, Rig.MEPC, Rig.RAM).reads(what, Rig.MCAUSE, 8 + level)
                    .reads(what, Rig.MTVAL, 0).stands(what, 3, -4).reads(what, Rig.SEPC, 8).reads(what, Rig.SCAUSE, 9)
                    .reads(what, Rig.STVAL, 10);
                if (level < 3 || (move[0] & 8) != 0) {
                    waiting(level, move[0], 0, 2).steps(what, 65).reads(what, Rig.MSTATUS, move[1])
                        .reads(what, Rig.MEPC, Rig.RAM).stands(what, 3, Rig.HANDLER);
                }
            }
        }
    }

    /** Both harts claim a word, at S if it is handed down; a hart takes what is due; then each tries to store. */
    private static void takenLosesClaims(String what, int taker, int word, int level, int handedDown, int answer) {
        Rig rig = new Rig(CHECK, Asm.lr(1, 2), word, Asm.sc(1, 2, 3));
        for (int hart = 0; hart < 2; hart++) {
            rig.onHart(hart).with(2, CLAIMED + 4 * hart).with(3, 5).put(Rig.MTVEC, Rig.RAM + 8)
                .put(Rig.STVEC, Rig.RAM + 8);
            rig.at(level, Rig.RAM).put(Rig.MEDELEG, handedDown).put(Rig.MIDELEG, handedDown).steps("LR", 0);
        }
        if (answer > 64) {
            rig.onHart(taker).put(Rig.MIP, 2).put(Rig.MIE, 2).put(Rig.MSTATUS, MIE_BIT | SIE_BIT);
        }
        rig.onHart(taker).steps(what, answer).put(Rig.MIP, 0);
        rig.steps(what, 0).holds(what + ": SC", 1, 1).keeps(what, 32 + taker, 0);
        rig.onHart(1 - taker).poke(1, Asm.NOP).steps(what, 0).steps(what, 0).holds(what + ": SC of the other", 1, 1)
            .keeps(what, 33 - taker, 0);
    }

    private static void claims() {
        CHECK.sentence("Both harts lose what they claim.");
        for (int taker = 0; taker < 2; taker++) {
            takenLosesClaims("trap at M", taker, Asm.ECALL, 3, 0, 12);
            takenLosesClaims("trap from S to M", taker, Asm.ECALL, 1, 0, 10);
            takenLosesClaims("trap from U to M", taker, 0, 0, 0, 3);
            takenLosesClaims("trap to S", taker, Asm.EBREAK, 1, -1, 4);
            takenLosesClaims("load that traps", taker, Asm.load(2, 1, 2, 1), 3, 0, 5);
            takenLosesClaims("LR that traps", taker, Asm.lr(1, 4), 3, 0, 6);
            takenLosesClaims("interrupt at M", taker, Asm.NOP, 3, 0, 65);
            takenLosesClaims("interrupt to M", taker, Asm.NOP, 1, 0, 65);
            takenLosesClaims("interrupt to S", taker, Asm.NOP, 1, -1, 65);
        }
    }
}
