/** Terms, the instructions of 0x73 and those that there are not: each sentence with an edge has a test of its own. */
public final class SystemEdgesTest {
    private static final Check CHECK = new Check();
    private static final int[] LEVELS = {0, 1, 3};
    private static final int ALL_STATUS = 0xE19AA;
    private static final int[] TOLD = {0x300, 0x301, 0x302, 0x303, 0x304, 0x305, 0x340, 0x341, 0x342, 0x343, 0x344,
        0xF11, 0xF12, 0xF13, 0xF14, 0x100, 0x104, 0x105, 0x140, 0x141, 0x142, 0x143, 0x144, 0x180};

    public static void main(String[] args) {
        wholeWords();
        waits();
        machineReturns();
        supervisorReturns();
        fences();
        numbers();
        exchanges();
        immediates();
        whenNotWritten();
        numbersNotTold();
        levelsBelow();
        writingReadOnly();
        notTold();
        CHECK.end();
    }

    private static void wholeWords() {
        CHECK.sentence("f3 0: the whole word 0x00000073 ECALL, 0x00100073 EBREAK, 0x10500073 WFI (nothing)");
        new Rig(CHECK, 0x00000073).traps("ECALL", 11, 0);
        new Rig(CHECK, 0x00100073).traps("EBREAK", 3, Rig.RAM);
        int[] words = {Asm.ECALL, Asm.EBREAK, Asm.WFI, Asm.MRET, Asm.SRET};
        for (int word : words) {
            for (int bit = 7; bit < 32; bit++) {
                boolean inField = bit < 12 || bit > 14;
                int other = word ^ 1 << bit;
                if (inField && !isThere(other)) {
                    new Rig(CHECK, other).with(1, 9).traps("beside " + Integer.toHexString(word), 2, other);
                }
            }
        }
    }

    private static boolean isThere(int word) {
        boolean isFence = word >>> 25 == 9 && (word >> 7 & 31) == 0;
        return word == Asm.ECALL || word == Asm.EBREAK || word == Asm.WFI || word == Asm.MRET || word == Asm.SRET
            || isFence;
    }

    private static void waits() {
        CHECK.sentence("0x10500073 WFI (nothing)");
        for (int level : LEVELS) {
            new Rig(CHECK, Asm.WFI).at(level, Rig.RAM).put(Rig.MSTATUS, ALL_STATUS).steps("WFI", 0)
                .stands("WFI", level, Rig.RAM + 4).reads("WFI", Rig.MSTATUS, ALL_STATUS);
        }
    }

    private static void machineReturns() {
        CHECK.sentence("0x30200073 MRET (at M): pc = mepc, the level = MPP, MIE = MPIE, MPIE = 1, MPP = 0, "
            + "MPRV = 0 if the level is not M then");
        int[][] moves = {
            // mstatus before, after, level
            {0, 0x80, 0}, {0x800, 0x80, 1}, {0x1800, 0x80, 3}, {0x1000, 0x80, 0},
            {0x80, 0x88, 0}, {0x8, 0x80, 0}, {0x88, 0x88, 0}, {0x1880, 0x88, 3}, {0x1808, 0x80, 3},
            {0x20000, 0x80, 0}, {0x20800, 0x80, 1}, {0x21800, 0x20080, 3}, {0x122, 0x1A2, 0},
            {ALL_STATUS, ALL_STATUS & ~0x1800, 3}, {ALL_STATUS & ~0x1000, ALL_STATUS & ~0x21800, 1},
            {ALL_STATUS & ~0x1800, ALL_STATUS & ~0x21800, 0},
        };
        int[] places = {0, -4, 0x80000040};
        for (int[] move : moves) {
            for (int place : places) {
                String what = "mstatus " + Integer.toHexString(move[0]);
                new Rig(CHECK, Asm.MRET).put(Rig.MSTATUS, move[0]).put(Rig.MEPC, place).put(Rig.SEPC, 4).steps(what, 0)
                    .stands(what, move[2], place).reads(what, Rig.MSTATUS, move[1]).reads(what, Rig.MEPC, place);
            }
        }
        for (int level = 0; level < 2; level++) {
            new Rig(CHECK, Asm.MRET).put(Rig.MEPC, 64).at(level, Rig.RAM).put(Rig.MSTATUS, 0x1880)
                .traps("at level " + level, 2, Asm.MRET).reads("at level", Rig.MSTATUS, level << 11);
        }
    }

    private static void supervisorReturns() {
        CHECK.sentence("0x10200073 SRET (at S and M): pc = sepc, the level = SPP, SIE = SPIE, SPIE = 1, SPP = 0, "
            + "MPRV = 0");
        int[][] moves = {
            {0, 0x20, 0}, {0x100, 0x20, 1}, {0x20, 0x22, 0}, {0x2, 0x20, 0}, {0x22, 0x22, 0}, {0x120, 0x22, 1},
            {0x20000, 0x20, 0}, {0x20100, 0x20, 1}, {0x1888, 0x18A8, 0},
            {ALL_STATUS, ALL_STATUS & ~0x20100, 1}, {ALL_STATUS & ~0x100, ALL_STATUS & ~0x20100, 0},
        };
        for (int level = 1; level <= 3; level += 2) {
            for (int[] move : moves) {
                String what = "mstatus " + Integer.toHexString(move[0]) + " at level " + level;
                new Rig(CHECK, Asm.SRET).at(level, Rig.RAM).put(Rig.MSTATUS, move[0]).put(Rig.SEPC, -4).put(Rig.MEPC, 4)
                    .steps(what, 0).stands(what, move[2], -4).reads(what, Rig.MSTATUS, move[1])
                    .reads(what, Rig.SEPC, -4);
            }
        }
        new Rig(CHECK, Asm.SRET).put(Rig.SEPC, 64).at(0, Rig.RAM).put(Rig.MSTATUS, 0x120)
            .traps("at U", 2, Asm.SRET).reads("at U", Rig.MSTATUS, 0x120);
    }

    private static void fences() {
        CHECK.sentence("f7 9 and rd 0 (at S and M): nothing");
        int[] sources = {0, 1, 5, 31};
        for (int rs1 : sources) {
            for (int rs2 : sources) {
                int word = Asm.r(0x73, 9, 0, 0, rs1, rs2);
                new Rig(CHECK, word).steps("at M", 0).stands("at M", 3, Rig.RAM + 4);
                new Rig(CHECK, word).at(1, Rig.RAM).steps("at S", 0).stands("at S", 1, Rig.RAM + 4);
                new Rig(CHECK, word).at(0, Rig.RAM).traps("at U", 2, word);
            }
        }
        for (int rd = 1; rd < 32; rd++) {
            int word = Asm.r(0x73, 9, 0, rd, 0, 0);
            new Rig(CHECK, word).with(rd, 9).traps("rd " + rd, 2, word).holds("rd " + rd, rd, 9);
        }
        int[] others = {8, 10, 11, 13, 25, 0x49};
        for (int f7 : others) {
            int word = Asm.r(0x73, f7, 0, 0, 3, 4);
            new Rig(CHECK, word).traps("f7 " + f7, 2, word);
        }
    }

    private static void numbers() {
        CHECK.sentence("CSR of number I (12 bits without sign): rd is it");
        for (int number : TOLD) {
            Rig rig = new Rig(CHECK, Asm.csr(2, 1, 0, number)).put(Rig.MEPC, 0x44).put(Rig.SATP, 0x123)
                .put(number, 0x220);
            int want = rig.machine.csr(0, number);
            rig.with(1, 9).steps("number " + Integer.toHexString(number), 0).holds("number", 1, want);
        }
        for (int hart = 0; hart < 2; hart++) {
            new Rig(CHECK, Asm.csr(2, 1, 0, 0xF14)).onHart(hart).with(1, 9).steps("0xF14", 0).holds("0xF14", 1, hart);
        }
    }

    private static void exchange(int f3, int old, int a, int want) {
        String what = "f3 " + f3 + ", " + old + ", " + a;
        new Rig(CHECK, Asm.csr(f3, 1, 2, 0x340)).with(1, 99).with(2, a).put(0x340, old).steps(what, 0)
            .holds(what, 1, old)
            .reads(what, 0x340, want).holds(what, 2, a).stands(what, 3, Rig.RAM + 4);
    }

    private static void exchanges() {
        CHECK.sentence("then it becomes a, or it or a, or it without the bits of a");
        int[] numbers = {0, 1, -1, Integer.MIN_VALUE, Integer.MAX_VALUE, 0x55555555};
        for (int old : numbers) {
            for (int a : numbers) {
                exchange(1, old, a, a);
                exchange(2, old, a, old | a);
                exchange(3, old, a, old & ~a);
            }
        }
        new Rig(CHECK, Asm.csr(1, 1, 1, 0x340)).with(1, 5).put(0x340, 8).steps("rd is rs1", 0).holds("rd is rs1", 1, 8)
            .reads("rd is rs1", 0x340, 5);
        new Rig(CHECK, Asm.csr(3, 1, 1, 0x340)).with(1, 8).put(0x340, 12).steps("rd is rs1", 0)
            .holds("rd is rs1", 1, 12)
            .reads("rd is rs1", 0x340, 4);
        new Rig(CHECK, Asm.csr(1, 0, 2, 0x340)).with(2, 5).put(0x340, 8).steps("rd is x0", 0).holds("rd is x0", 0, 0)
            .reads("rd is x0", 0x340, 5);
        new Rig(CHECK, Asm.csr(1, 1, 0, 0x340)).put(0x340, 8).steps("rs1 is x0", 0).holds("rs1 is x0", 1, 8)
            .reads("rs1 is x0", 0x340, 0);
    }

    private static void immediates() {
        CHECK.sentence("a being rs1, or (5, 6, 7) the rs1 field");
        int[] fields = {0, 1, 16, 31};
        int[] numbers = {0, -1, 0x55555555};
        for (int field : fields) {
            for (int old : numbers) {
                int[] wants = {field, old | field, old & ~field};
                for (int way = 0; way < 3; way++) {
                    String what = "f3 " + (5 + way) + ", field " + field + ", " + old;
                    new Rig(CHECK, Asm.csr(5 + way, 2, field, 0x340)).with(field, -1).put(0x340, old).steps(what, 0)
                        .holds(what, 2, old).reads(what, 0x340, wants[way]);
                }
            }
        }
    }

    private static void whenNotWritten() {
        CHECK.sentence("of 2, 3, 6, 7 it is not written if the rs1 field is 0");
        int[] ways = {2, 3, 6, 7};
        for (int f3 : ways) {
            for (int number = 0xF11; number <= 0xF14; number++) {
                new Rig(CHECK, Asm.csr(f3, 1, 0, number)).onHart(1).with(1, 9).steps("read alone", 0)
                    .holds("read alone", 1, number == 0xF14 ? 1 : 0);
                int word = Asm.csr(f3, 1, 2, number);
                new Rig(CHECK, word).with(1, 9).traps("a register that is 0 is written", 2, word)
                    .holds("written", 1, 9);
            }
            new Rig(CHECK, Asm.csr(f3, 1, 0, 0x340)).put(0x340, -5).steps("read alone", 0).holds("read alone", 1, -5)
                .reads("read alone", 0x340, -5);
        }
        for (int f3 = 1; f3 <= 5; f3 += 4) {
            int word = Asm.csr(f3, 1, 0, 0xF14);
            new Rig(CHECK, word).with(1, 9).traps("1 and 5 are written", 2, word).holds("1 and 5", 1, 9);
            new Rig(CHECK, Asm.csr(f3, 1, 0, 0x340)).put(0x340, -5).steps("1 and 5", 0).reads("1 and 5", 0x340, 0);
        }
    }

    private static boolean isTold(int number) {
        for (int told : TOLD) {
            if (told == number) {
                return true;
            }
        }
        return false;
    }

    private static void numbersNotTold() {
        CHECK.sentence("Not allowed: numbers that are not told above");
        for (int number = 0; number < 4096; number++) {
            int word = Asm.csr(2, 1, 0, number);
            TwinHart machine = new TwinHart(16);
            machine.poke(0, word);
            machine.set(0, 1, 9);
            CHECK.due("number " + number, machine.step(0), isTold(number) ? 0 : 3);
            CHECK.due("mtval of number " + number, machine.csr(0, Rig.MTVAL), isTold(number) ? 0 : word);
            if (!isTold(number)) {
                CHECK.due("rd of number " + number, machine.register(0, 1), 9);
            }
        }
    }

    private static void levelsBelow() {
        CHECK.sentence("a level below bits 8, 9 of the number");
        for (int number : TOLD) {
            for (int level : LEVELS) {
                String what = "number " + Integer.toHexString(number) + " at level " + level;
                int word = Asm.csr(2, 1, 0, number);
                Rig rig = new Rig(CHECK, word).at(level, Rig.RAM);
                if (level >= (number >> 8 & 3)) {
                    rig.steps(what, 0).stands(what, level, Rig.RAM + 4);
                } else {
                    rig.with(1, 9).traps(what, 2, word).holds(what, 1, 9);
                }
            }
        }
        int machineWord = Asm.csr(1, 1, 2, Rig.MSCRATCH);
        new Rig(CHECK, machineWord).with(2, 5).at(1, Rig.RAM).traps("mscratch at S", 2, machineWord)
            .reads("mscratch at S", Rig.MSCRATCH, 0);
        int lowerWord = Asm.csr(1, 1, 2, Rig.SSCRATCH);
        new Rig(CHECK, lowerWord).with(2, 5).at(0, Rig.RAM).traps("sscratch at U", 2, lowerWord)
            .reads("sscratch at U", Rig.SSCRATCH, 0);
        new Rig(CHECK, lowerWord).with(2, 5).at(1, Rig.RAM).steps("sscratch at S", 0).reads("at S", Rig.SSCRATCH, 5);
    }

    private static void writingReadOnly() {
        CHECK.sentence("writing where bits 10, 11 of it are both 1");
        for (int number = 0xF11; number <= 0xF14; number++) {
            for (int f3 = 1; f3 < 8; f3++) {
                if (f3 != 4) {
                    int word = Asm.csr(f3, 1, 3, number);
                    new Rig(CHECK, word).onHart(1).with(1, 9).with(3, -1).traps("f3 " + f3, 2, word).holds("f3", 1, 9)
                        .reads("f3 " + f3, number, number == 0xF14 ? 1 : 0);
                }
            }
        }
    }

    private static void notTold() {
        CHECK.sentence("All that is not told here there is not.");
        int[] known = {0x37, 0x17, 0x6F, 0x67, 0x63, 0x03, 0x23, 0x13, 0x33, 0x0F, 0x2F, 0x73};
        for (int low = 0; low < 128; low++) {
            boolean there = false;
            for (int k : known) {
                there |= k == low;
            }
            int[] words = {low, 0x2100 | low, 0xFFFFFF80 | low, 0x00112080 | low};
            for (int word : words) {
                if (!there) {
                    new Rig(CHECK, word).with(1, 9).traps("lowest bits " + low, 2, word).holds("lowest bits", 1, 9);
                }
            }
        }
        int word = Asm.csr(4, 1, 2, 0x340);
        new Rig(CHECK, word).with(1, 9).with(2, 5).traps("0x73, f3 4", 2, word).holds("0x73, f3 4", 1, 9);
    }
}
