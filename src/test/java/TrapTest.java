/** Promise 5: traps, where they are taken, and the way back. */
public final class TrapTest {
    private static final Check CHECK = new Check();
    private static final int ALL_STATUS = 0xE19AA;

    public static void main(String[] args) {
        calls();
        handedDown();
        notHandedDown();
        statusAtMachine();
        statusAtSupervisor();
        returnsFromMachine();
        returnsFromSupervisor();
        rightsOfReturns();
        fences();
        notThere();
        trapsChangeNothingElse();
        CHECK.end();
    }

    private static void calls() {
        new Rig(CHECK, Asm.ECALL).traps("ECALL at M", 11, 0);
        new Rig(CHECK, Asm.ECALL).at(1, Rig.RAM).traps("ECALL at S", 9, 0);
        new Rig(CHECK, Asm.ECALL).at(0, Rig.RAM).traps("ECALL at U", 8, 0);
        new Rig(CHECK, Asm.NOP, Asm.EBREAK).steps("nop", 0).traps("EBREAK", 3, Rig.RAM + 4);
        new Rig(CHECK, Asm.EBREAK).at(0, Rig.RAM).traps("EBREAK at U", 3, Rig.RAM);
        for (int level = 0; level < 2; level++) {
            new Rig(CHECK, Asm.WFI).at(level, Rig.RAM).steps("WFI", 0).stands("WFI", level, Rig.RAM + 4);
        }
    }

    /** One trap of each cause that needs no pages, at a level, with a medeleg. */
    private static Rig cause(int cause, int level, int medeleg) {
        int[] words = new int[16];
        words[0] = Asm.jal(0, 2);
        words[2] = 0;
        words[3] = Asm.EBREAK;
        words[4] = Asm.load(2, 1, 0, 1);
        words[5] = Asm.load(2, 1, 0, 0);
        words[6] = Asm.store(2, 1, 0, 1);
        words[7] = Asm.store(2, 1, 0, 0);
        words[8] = Asm.ECALL;
        words[9] = Asm.ECALL;
        words[11] = Asm.ECALL;
        int pc = cause == 1 ? 0x40000000 : Rig.RAM + 4 * cause;
        return new Rig(CHECK, words).put(Rig.MEDELEG, medeleg).at(level, pc);
    }

    private static int valueOf(int cause) {
        int[] values = {Rig.RAM + 2, 0x40000000, 0, Rig.RAM + 12, 1, 0, 1, 0, 0, 0, 0, 0};
        return values[cause];
    }

    private static void handedDown() {
        for (int cause = 0; cause < 10; cause++) {
            for (int level = 0; level < 2; level++) {
                if (cause < 8 || cause == 8 + level) {
                    cause(cause, level, 1 << cause).trapsLower("handed down", cause, valueOf(cause));
                    cause(cause, level, -1).trapsLower("all handed down", cause, valueOf(cause))
                        .reads("all handed down", Rig.MCAUSE, 0).reads("all handed down", Rig.MEPC, 0);
                }
            }
        }
    }

    private static void notHandedDown() {
        for (int cause = 0; cause < 12; cause++) {
            if (cause != 10) {
                if (cause != 8 && cause != 9) {
                    cause(cause, 3, -1).traps("at M", cause, valueOf(cause)).reads("at M", Rig.SCAUSE, 0);
                }
                for (int level = 0; level < 2; level++) {
                    if (cause < 8 || cause == 8 + level) {
                        cause(cause, level, ~(1 << cause)).traps("bit is 0", cause, valueOf(cause));
                    }
                }
            }
        }
    }

    private static void statusAtMachine() {
        for (int level = 0; level < 4; level++) {
            if (level != 2) {
                new Rig(CHECK, Asm.ECALL).at(level, Rig.RAM).put(Rig.MSTATUS, ALL_STATUS)
                    .steps("trap", 9 + level).reads("trap", Rig.MSTATUS, ALL_STATUS & ~0x1808 | level << 11);
                new Rig(CHECK, Asm.ECALL).at(level, Rig.RAM).put(Rig.MSTATUS, 0)
                    .steps("trap", 9 + level).reads("trap", Rig.MSTATUS, level << 11);
                new Rig(CHECK, Asm.ECALL).at(level, Rig.RAM).put(Rig.MSTATUS, 0x8)
                    .steps("trap", 9 + level).reads("trap", Rig.MSTATUS, 0x80 | level << 11);
                new Rig(CHECK, Asm.ECALL).at(level, Rig.RAM).put(Rig.MSTATUS, 0x80)
                    .steps("trap", 9 + level).reads("trap", Rig.MSTATUS, level << 11);
            }
        }
    }

    private static void statusAtSupervisor() {
        for (int level = 0; level < 2; level++) {
            int spp = level << 8;
            int[][] moves = {{ALL_STATUS, ALL_STATUS & ~0x102 | spp}, {0, spp}, {0x2, 0x20 | spp}, {0x20, spp},
                {0x188, 0x88 | spp}};
            for (int[] move : moves) {
                new Rig(CHECK, Asm.ECALL).at(level, Rig.RAM).put(Rig.MEDELEG, 0x300).put(Rig.MSTATUS, move[0])
                    .steps("trap to S", 9 + level).reads("trap to S", Rig.MSTATUS, move[1]);
            }
        }
    }

    private static void returnsFromMachine() {
        int[][] moves = {
            // mstatus before, after, level
            {0, 0x80, 0}, {0x800, 0x80, 1}, {0x1800, 0x80, 3},
            {0x80, 0x88, 0}, {0x8, 0x80, 0}, {0x88, 0x88, 0},
            {0x20000, 0x80, 0}, {0x20800, 0x80, 1}, {0x21800, 0x20080, 3},
            {ALL_STATUS, ALL_STATUS & ~0x1800, 3}, {ALL_STATUS & ~0x1000, ALL_STATUS & ~0x21800, 1},
            {ALL_STATUS & ~0x1800, ALL_STATUS & ~0x21800, 0},
        };
        for (int[] move : moves) {
            new Rig(CHECK, Asm.MRET).put(Rig.MSTATUS, move[0]).put(Rig.MEPC, 0x12345678).put(Rig.SEPC, 4)
                .steps("MRET", 0).stands("MRET", move[2], 0x12345678).reads("MRET", Rig.MSTATUS, move[1]);
        }
    }

    private static void returnsFromSupervisor() {
        int[][] moves = {
            {0, 0x20, 0}, {0x100, 0x20, 1}, {0x20, 0x22, 0}, {0x2, 0x20, 0}, {0x22, 0x22, 0},
            {0x20000, 0x20, 0}, {0x20100, 0x20, 1},
            {ALL_STATUS, ALL_STATUS & ~0x20100, 1}, {ALL_STATUS & ~0x100, ALL_STATUS & ~0x20100, 0},
        };
        for (int level = 1; level <= 3; level += 2) {
            for (int[] move : moves) {
                new Rig(CHECK, Asm.SRET).at(level, Rig.RAM).put(Rig.MSTATUS, move[0]).put(Rig.SEPC, 0x12345678)
                    .put(Rig.MEPC, 4).steps("SRET", 0).stands("SRET", move[2], 0x12345678)
                    .reads("SRET", Rig.MSTATUS, move[1]);
            }
        }
    }

    private static void rightsOfReturns() {
        new Rig(CHECK, Asm.MRET).at(1, Rig.RAM).traps("MRET at S", 2, Asm.MRET);
        new Rig(CHECK, Asm.MRET).at(0, Rig.RAM).traps("MRET at U", 2, Asm.MRET);
        new Rig(CHECK, Asm.SRET).at(0, Rig.RAM).traps("SRET at U", 2, Asm.SRET);
    }

    private static void fences() {
        int[] words = {Asm.SFENCE, Asm.SFENCE | 31 << 15, Asm.SFENCE | 31 << 20, Asm.SFENCE | 5 << 15 | 6 << 20};
        for (int word : words) {
            new Rig(CHECK, word).steps("fence at M", 0).stands("fence at M", 3, Rig.RAM + 4);
            new Rig(CHECK, word).at(1, Rig.RAM).steps("fence at S", 0).stands("fence at S", 1, Rig.RAM + 4);
            new Rig(CHECK, word).at(0, Rig.RAM).traps("fence at U", 2, word);
        }
        new Rig(CHECK, Asm.SFENCE | 1 << 7).traps("fence with rd", 2, Asm.SFENCE | 1 << 7);
    }

    private static void notThere() {
        int[] words = {0x00200073, 0x000000F3, 0x00008073, 0x00100073 | 1 << 7, 0x10500073 | 1 << 15,
            0x30200073 | 1 << 7,
            0x10200073 | 1 << 15, 0x00300073, 0x7B200073, 0x14000073, 0x10000073, 0x30000073, 0x10400073};
        for (int word : words) {
            new Rig(CHECK, word).traps("0x73, f3 0", 2, word);
        }
        int word = Asm.csr(4, 1, 0, 0x340);
        new Rig(CHECK, word).traps("0x73, f3 4", 2, word);
    }

    private static void trapsChangeNothingElse() {
        Rig rig = new Rig(CHECK, Asm.load(2, 1, 2, 0)).with(1, 5).with(2, 0x40000000).put(Rig.SCAUSE, 7)
            .put(Rig.SEPC, 8)
            .put(Rig.STVAL, 9);
        rig.traps("load", 5, 0x40000000).holds("load", 1, 5).holds("load", 2, 0x40000000);
        rig.reads("load", Rig.SCAUSE, 7).reads("load", Rig.SEPC, 8).reads("load", Rig.STVAL, 9);
        CHECK.due("pc(1)", rig.machine.pc(1), Rig.RAM);
        CHECK.due("mcause of hart 1", rig.machine.csr(1, Rig.MCAUSE), 0);
        CHECK.due("level(1)", rig.machine.level(1), 3);
    }
}
