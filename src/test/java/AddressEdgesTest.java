/** Terms, from NUMBERS to ADDRESSES: each sentence that names an edge, with a test of its own. */
public final class AddressEdgesTest extends Paged {
    private static final int END = Rig.RAM + 4 * 4096;
    private static final int MSIP = 0x02000000;
    private static final int MTIMECMP = 0x02004000;
    private static final int MTIME = 0x0200BFF8;
    private static final int[] CLOCK = {MSIP, MSIP + 4, MTIMECMP, MTIMECMP + 4, MTIMECMP + 8, MTIMECMP + 12, MTIME,
        MTIME + 4};
    private static final int[] LOADS = {0, 1, 2, 4, 5};
    private static final int[] CHANGES = {3, 0, 1, 4, 8, 0xC, 0x10, 0x14, 0x18, 0x1C};

    public static void main(String[] args) {
        numbersOf32Bits();
        registers();
        pcIsAMultiple();
        levels();
        withoutSigns();
        asManyWords();
        lowestByteFirst();
        msip();
        sixtyFourBits();
        wholeWords();
        bytesPutOut();
        bytesLost();
        allElse();
        instructionsBeyondRam();
        claimsBeyondRam();
        CHECK.end();
    }

    private static void numbersOf32Bits() {
        CHECK.sentence("NUMBERS are ints of 32 bits");
        int least = Integer.MIN_VALUE;
        int greatest = Integer.MAX_VALUE;
        new Rig(CHECK, Asm.addi(1, 2, 1)).with(2, greatest).steps("sum", 0).holds("sum", 1, least);
        new Rig(CHECK, Asm.addi(1, 2, 1)).with(2, -1).steps("sum", 0).holds("sum", 1, 0);
        new Rig(CHECK, Asm.op(0x20, 0, 1, 2, 3)).with(2, least).with(3, 1).steps("less", 0).holds("less", 1, greatest);
        new Rig(CHECK, Asm.auipc(1, 0x80000000)).steps("AUIPC", 0).holds("AUIPC", 1, 0);
        addressesGoRound();
        pcGoesRound();
    }

    private static void addressesGoRound() {
        new Rig(CHECK, Asm.load(2, 1, 2, 4)).with(2, 0x7FFFFFFC).steps("load up to RAM", 0)
            .holds("load up to RAM", 1, Asm.load(2, 1, 2, 4));
        new Rig(CHECK, Asm.load(2, 1, 2, -4)).with(2, Rig.RAM).traps("load down from RAM", 5, 0x7FFFFFFC);
        new Rig(CHECK, Asm.load(0, 1, 2, 1)).with(2, -1).traps("load beyond all", 5, 0);
        new Rig(CHECK, Asm.load(0, 1, 2, -1)).traps("load below all", 5, -1);
        new Rig(CHECK, Asm.store(0, 1, 2, 1)).with(2, -1).traps("store beyond all", 7, 0);
        new Rig(CHECK, Asm.store(0, 1, 2, -1)).traps("store below all", 7, -1);
        new Rig(CHECK, Asm.jalr(0, 2, 4)).with(2, -4).steps("JALR beyond all", 0).stands("JALR beyond all", 3, 0);
        new Rig(CHECK, Asm.jalr(0, 2, -4)).steps("JALR below all", 0).stands("JALR below all", 3, -4);
        new Rig(CHECK, Asm.jal(0, -4)).steps("JAL below RAM", 0).stands("JAL below RAM", 3, 0x7FFFFFFC);
    }

    /** The last instruction that an address can have, at S and behind pages: word 4095 of RAM. */
    private static Rig lastInstruction(int word) {
        Rig rig = paged(1, ALL, Asm.jalr(0, 4, 0)).with(4, -4).poke(4095, word);
        rig.poke(1024 + 1023, entry(0x80002, V)).poke(2048 + 1023, entry(0x80003, ALL));
        return rig.steps("JALR", 0).stands("JALR", 1, -4);
    }

    private static void pcGoesRound() {
        lastInstruction(Asm.NOP).steps("pc + 4", 0).stands("pc + 4", 1, 0);
        lastInstruction(Asm.jal(1, 8)).steps("JAL", 0).stands("JAL", 1, 4).holds("JAL", 1, 0);
        lastInstruction(Asm.jalr(1, 0, 16)).steps("JALR", 0).stands("JALR", 1, 16).holds("JALR", 1, 0);
        lastInstruction(Asm.branch(0, 0, 0, 12)).steps("branch", 0).stands("branch", 1, 8);
        lastInstruction(Asm.auipc(1, 0x1000)).steps("AUIPC", 0).holds("AUIPC", 1, 0xFFC);
        lastInstruction(Asm.EBREAK).traps("EBREAK", 3, -4);
    }

    private static void registers() {
        CHECK.sentence("REGISTERS x0 .. x31 of each hart; x0 is always 0.");
        int[] writers = {Asm.addi(0, 3, 5), Asm.lui(0, 0x12345000), Asm.auipc(0, 0), Asm.jal(0, 4), Asm.jalr(0, 4, 0),
            Asm.load(2, 0, 2, 0), Asm.op(0, 0, 0, 3, 3), Asm.op(1, 0, 0, 3, 3), Asm.op(1, 4, 0, 3, 0),
            Asm.lr(0, 2), Asm.sc(0, 2, 3), Asm.atomic(0, 0, 2, 3), Asm.csr(2, 0, 0, 0x301), Asm.csr(1, 0, 3, 0x340)};
        for (int hart = 0; hart < 2; hart++) {
            for (int word : writers) {
                String what = "word " + Integer.toHexString(word);
                Rig rig = new Rig(CHECK, word, Asm.op(0, 0, 5, 0, 0)).onHart(hart).with(2, Rig.RAM + 0x80).with(3, 77)
                    .with(4, Rig.RAM + 4).with(5, 9).put(0x340, 88).poke(32, 99);
                rig.steps(what, 0).holds(what, 0, 0).steps(what, 0).holds(what, 5, 0);
            }
            for (int i = 1; i < 32; i++) {
                Rig rig = new Rig(CHECK, Asm.addi(i, i, 1), Asm.op(0, 0, 31, i, 0)).onHart(hart).with(i, 50 + i);
                rig.steps("x" + i, 0).holds("x" + i, i, 51 + i).steps("x" + i, 0).holds("x" + i, 31, 51 + i);
                rig.onHart(1 - hart).holds("of the other", i, 0);
            }
            new Rig(CHECK, Asm.store(2, 0, 2, 0)).onHart(hart).with(2, Rig.RAM + 0x80).poke(32, 99)
                .steps("store of x0", 0).keeps("store of x0", 32, 0);
        }
    }

    private static void pcIsAMultiple() {
        CHECK.sentence("pc is a multiple of 4.");
        for (int low = 0; low < 4; low++) {
            new Rig(CHECK, Asm.MRET).put(Rig.MEPC, 0x80000040 | low).steps("MRET", 0).stands("MRET", 0, 0x80000040);
            new Rig(CHECK, Asm.SRET).put(Rig.SEPC, 0x80000040 | low).steps("SRET", 0).stands("SRET", 0, 0x80000040);
            new Rig(CHECK, Asm.ECALL).put(Rig.MTVEC, 0x80000040 | low).steps("trap", 12).stands("trap", 3, 0x80000040);
            new Rig(CHECK, Asm.ECALL).put(Rig.STVEC, 0x80000040 | low).put(Rig.MEDELEG, -1).at(0, Rig.RAM)
                .steps("trap to S", 9).stands("trap to S", 1, 0x80000040);
            new Rig(CHECK, Asm.NOP).put(Rig.MTVEC, 0x80000040 | low).put(Rig.MIP, 2).put(Rig.MIE, 2)
                .put(Rig.MSTATUS, 8).steps("interrupt", 65).stands("interrupt", 3, 0x80000040);
            new Rig(CHECK, Asm.csr(1, 0, 1, Rig.MEPC), Asm.MRET).with(1, 0x80000040 | low)
                .steps("written mepc", 0).steps("MRET", 0).stands("MRET", 0, 0x80000040);
        }
    }

    private static void levels() {
        CHECK.sentence("LEVELS: 0 U, 1 S, 3 M.");
        int[][] rows = {{0, 0}, {1, 1}, {2, 0}, {3, 3}};
        for (int[] row : rows) {
            new Rig(CHECK, Asm.MRET).put(Rig.MEPC, 64).put(Rig.MSTATUS, row[0] << 11)
                .steps("MPP " + row[0], 0).stands("MPP " + row[0], row[1], 64);
        }
    }

    private static void withoutSigns() {
        CHECK.sentence("ADDRESSES (unsigned)");
        int[] places = {-4, END, 0x7FFFFFFC, 0, 4, 0xC0000000};
        for (int place : places) {
            String what = "0x" + Integer.toHexString(place);
            new Rig(CHECK, Asm.load(2, 1, 2, 0)).with(2, place).traps(what, 5, place);
            new Rig(CHECK, Asm.store(2, 1, 2, 0)).with(2, place).traps(what, 7, place);
            new Rig(CHECK, Asm.jalr(0, 2, 0)).with(2, place).steps(what, 0).traps(what, 1, place);
        }
        new Rig(CHECK, Asm.load(2, 1, 2, 0)).with(2, Rig.RAM).steps("RAM", 0).holds("RAM", 1, Asm.load(2, 1, 2, 0));
        paged(1, ALL, LOAD).with(2, -4).poke(FIRST + 1023, entry(0x80002, V)).poke(SECOND + 1023, entry(0x80003, ALL))
            .poke(4095, 888).steps("the last address has a page", 0).holds("the last address has a page", 1, 888);
    }

    private static void asManyWords() {
        CHECK.sentence("RAM are as many words as were asked for, from 0x80000000 on");
        int[] sizes = {16, 17, 64, 4095, 4096};
        for (int words : sizes) {
            int end = Rig.RAM + 4 * words;
            for (int f3 : LOADS) {
                int size = 1 << (f3 & 3);
                loadIsThere(words, f3, Rig.RAM);
                loadIsThere(words, f3, end - size);
                String what = "load f3 " + f3 + " of " + words + " words";
                one(words, Asm.load(f3, 1, 2, 0), end).traps(what, 5, end);
                one(words, Asm.load(f3, 1, 2, 0), Rig.RAM - size).traps(what, 5, Rig.RAM - size);
            }
            for (int f3 = 0; f3 < 3; f3++) {
                int size = 1 << f3;
                String what = "store f3 " + f3 + " of " + words + " words";
                one(words, Asm.store(f3, 3, 2, 0), Rig.RAM).with(3, 0).steps(what, 0);
                one(words, Asm.store(f3, 3, 2, 0), end - size).with(3, -1).steps(what, 0)
                    .keeps(what, words - 1, -1 << 32 - 8 * size);
                one(words, Asm.store(f3, 3, 2, 0), end).traps(what, 7, end);
                one(words, Asm.store(f3, 3, 2, 0), Rig.RAM - size).traps(what, 7, Rig.RAM - size);
            }
        }
    }

    private static Rig one(int words, int word, int address) {
        return Rig.ofWords(CHECK, words, word).with(2, address);
    }

    private static void loadIsThere(int words, int f3, int address) {
        String what = "load f3 " + f3 + " at " + Integer.toHexString(address) + " of " + words + " words";
        one(words, Asm.load(f3, 1, 2, 0), address).steps(what, 0).stands(what, 3, Rig.RAM + 4);
    }

    private static void lowestByteFirst() {
        CHECK.sentence("words with their lowest byte first");
        for (int offset = 0; offset < 4; offset++) {
            one(64, Asm.load(4, 1, 2, offset), Rig.RAM + 0x80).poke(32, 0x44332211)
                .steps("byte " + offset, 0).holds("byte " + offset, 1, 0x11 * (offset + 1));
            one(64, Asm.store(0, 3, 2, offset), Rig.RAM + 0x80).with(3, 0xAB).steps("byte " + offset, 0)
                .keeps("byte " + offset, 32, 0xAB << 8 * offset).keeps("before", 31, 0).keeps("behind", 33, 0);
        }
        one(64, Asm.load(5, 1, 2, 0), Rig.RAM + 0x80).poke(32, 0x44332211).steps("half", 0).holds("half", 1, 0x2211);
        one(64, Asm.load(5, 1, 2, 2), Rig.RAM + 0x80).poke(32, 0x44332211).steps("half", 0).holds("half", 1, 0x4433);
        one(64, Asm.load(2, 1, 2, 0), Rig.RAM + 0x80).poke(32, 0x44332211).steps("word", 0)
            .holds("word", 1, 0x44332211);
    }

    private static void msip() {
        CHECK.sentence("msip of hart 0 and 1 (bit 0 alone counts; other bits are 0)");
        int[] written = {0, 1, 2, 3, -1, -2, Integer.MIN_VALUE, Integer.MAX_VALUE};
        for (int hart = 0; hart < 2; hart++) {
            for (int v : written) {
                String what = "msip of " + hart + " is " + v;
                Rig rig = new Rig(CHECK, Asm.store(2, 3, 2, 0), Asm.load(2, 1, 2, 0), Asm.load(2, 4, 5, 0))
                    .with(1, 9).with(2, MSIP + 4 * hart).with(3, v).with(4, 9).with(5, MSIP + 4 - 4 * hart);
                rig.steps(what, 0).steps(what, 0).holds(what, 1, v & 1).steps(what, 0).holds(what, 4, 0);
                rig.onHart(hart).reads(what, Rig.MIP, (v & 1) << 3).onHart(1 - hart).reads(what, Rig.MIP, 0);
            }
        }
        new Rig(CHECK, Asm.store(2, 3, 2, 0), Asm.store(2, 4, 2, 0)).with(2, MSIP).with(3, 1).with(4, 2)
            .steps("msip", 0).reads("msip", Rig.MIP, 8).steps("msip", 0)
            .reads("an even number takes it away", Rig.MIP, 0);
    }

    private static void sixtyFourBits() {
        CHECK.sentence("these have 64 bits, the lower word first");
        int[] places = {MTIMECMP, MTIMECMP + 8, MTIME};
        for (int place : places) {
            String what = "0x" + Integer.toHexString(place);
            Rig rig = new Rig(CHECK, Asm.store(2, 3, 2, 0), Asm.store(2, 4, 2, 4), Asm.load(2, 5, 2, 0),
                Asm.load(2, 6, 2, 4)).with(2, place).with(3, 0x87654321).with(4, 0xFEDCBA98);
            rig.steps(what, 0).steps(what, 0).steps(what, 0).steps(what, 0);
            rig.holds(what, 5, 0x87654321).holds(what, 6, 0xFEDCBA98);
        }
        Rig carry = new Rig(CHECK, Asm.store(2, 3, 2, 0), Asm.load(2, 5, 2, 0), Asm.load(2, 6, 2, 4)).with(2, MTIME)
            .with(3, -1).steps("mtime", 0);
        carry.machine.tick();
        carry.steps("carry", 0).steps("carry", 0).holds("lower word", 5, 0).holds("upper word", 6, 1);
        for (int hart = 0; hart < 2; hart++) {
            Rig rig = new Rig(CHECK, Asm.store(2, 0, 2, 4), Asm.store(2, 0, 2, 0)).with(2, MTIMECMP + 8 * hart);
            rig.steps("upper word alone", 0).onHart(hart).reads("0 is below the lower word", Rig.MIP, 0);
            rig.onHart(0).steps("lower word", 0).onHart(hart).reads("both are 0", Rig.MIP, 0x80);
            rig.onHart(1 - hart).reads("of the other", Rig.MIP, 0);
            dueOf(hart, "lower words are compared", 5, 0, 5, 0, 0x80);
            dueOf(hart, "the lower word is not the upper one", 5, 0, 0, 5, 0);
            dueOf(hart, "the upper word counts more", 9, 0, 0, 1, 0);
            dueOf(hart, "the upper word counts more", 0, 1, 9, 0, 0x80);
        }
    }

    /** Hart 0 stores mtime and a hart's mtimecmp, each by its lower word and then its upper word. */
    private static void dueOf(int hart, String what, int low, int high, int cmpLow, int cmpHigh, int mip) {
        Rig rig = new Rig(CHECK, Asm.store(2, 3, 2, 0), Asm.store(2, 4, 2, 4), Asm.store(2, 5, 7, 0),
            Asm.store(2, 6, 7, 4)).with(2, MTIME).with(3, low).with(4, high).with(5, cmpLow).with(6, cmpHigh)
            .with(7, MTIMECMP + 8 * hart);
        rig.steps(what, 0).steps(what, 0).steps(what, 0).steps(what, 0).onHart(hart).reads(what, Rig.MIP, mip);
    }

    private static void wholeWords() {
        CHECK.sentence("CLINT is read and written by whole words.");
        for (int place : CLOCK) {
            String what = "0x" + Integer.toHexString(place);
            new Rig(CHECK, Asm.load(2, 1, 2, 0), Asm.store(2, 1, 2, 0)).with(2, place).steps(what, 0).steps(what, 0);
            for (int offset = 0; offset < 4; offset++) {
                int at = place + offset;
                partOfClock(what, 0, at);
                if (offset % 2 == 0) {
                    partOfClock(what, 1, at);
                }
            }
        }
    }

    private static void partOfClock(String what, int f3, int at) {
        new Rig(CHECK, Asm.load(f3, 1, 2, 0)).with(1, 9).with(2, at).traps(what, 5, at).holds(what, 1, 9);
        new Rig(CHECK, Asm.load(f3 | 4, 1, 2, 0)).with(1, 9).with(2, at).traps(what, 5, at).holds(what, 1, 9);
        Rig rig = new Rig(CHECK, Asm.store(f3, 1, 2, 0), 0, Asm.load(2, 3, 4, 0)).with(1, 5).with(2, at)
            .with(4, at & -4);
        rig.put(Rig.MTVEC, Rig.RAM + 8).steps(what, 8).reads(what, Rig.MTVAL, at).steps(what, 0);
        rig.holds(what + " is as it was", 3, (at & 0xFFF0) == 0x4000 ? -1 : 0);
    }

    private static void bytesPutOut() {
        CHECK.sentence("a byte that is stored there is put out (but not read)");
        for (int hart = 0; hart < 2; hart++) {
            Rig rig = new Rig(CHECK, Asm.store(0, 3, 2, 0)).onHart(hart).with(2, Console.PLACE).with(3, 0x1234);
            rig.steps("sb", 0).printed("sb", 1);
            CHECK.due("out(0)", rig.machine.out(0), 0x34);
            for (int f3 : LOADS) {
                String what = "load f3 " + f3;
                new Rig(CHECK, Asm.load(f3, 1, 2, 0)).onHart(hart).with(1, 9).with(2, Console.PLACE)
                    .traps(what, 5, Console.PLACE).holds(what, 1, 9).printed(what, 0);
            }
            for (int f3 = 1; f3 < 3; f3++) {
                String what = "store f3 " + f3;
                new Rig(CHECK, Asm.store(f3, 3, 2, 0)).onHart(hart).with(2, Console.PLACE)
                    .traps(what, 7, Console.PLACE).printed(what, 0);
            }
        }
    }

    private static void bytesLost() {
        CHECK.sentence("beyond 256 they are lost");
        TwinHart machine = new TwinHart(64);
        Console.fill(machine, 256);
        for (int i = 1; i < 32; i++) {
            if (i != 2) {
                machine.set(0, i, 1);
            }
        }
        for (int n = 0; n < 8; n++) {
            CHECK.due("sb beyond", machine.step(0), 0);
            CHECK.due("size()", machine.size(), 256);
        }
        for (int i = 0; i < 16; i++) {
            CHECK.due("out(" + i + ")", machine.out(i), Console.byteOf(i));
            CHECK.due("out(" + (240 + i) + ")", machine.out(240 + i), Console.byteOf(240 + i));
        }
        CHECK.due("out(256)", machine.out(256), TwinHart.NONE);
    }

    private static void allElse() {
        CHECK.sentence("All else is an ACCESS FAULT");
        int[] places = {0, 4, -4, MSIP - 4, MSIP + 8, MTIMECMP - 4, MTIMECMP + 16, MTIME - 4, MTIME + 8,
            Console.PLACE - 4, Console.PLACE + 4, Rig.RAM - 4, END, MSIP | Rig.RAM, Console.PLACE | Rig.RAM,
            MSIP | 0x40000000, Console.PLACE | 0x40000000};
        for (int place : places) {
            String what = "0x" + Integer.toHexString(place);
            for (int f3 : LOADS) {
                new Rig(CHECK, Asm.load(f3, 1, 2, 0)).with(1, 9).with(2, place).traps(what, 5, place).holds(what, 1, 9);
            }
            for (int f3 = 0; f3 < 3; f3++) {
                new Rig(CHECK, Asm.store(f3, 3, 2, 0)).with(2, place).traps(what, 7, place).printed(what, 0);
            }
        }
        for (int offset = -1; offset < 4; offset++) {
            int at = Console.PLACE + offset;
            if (offset != 0) {
                new Rig(CHECK, Asm.store(0, 3, 2, 0)).with(2, at).traps("beside the console", 7, at)
                    .printed("beside", 0);
                new Rig(CHECK, Asm.load(0, 3, 2, 0)).with(2, at).traps("beside the console", 5, at);
            }
        }
    }

    private static void instructionsBeyondRam() {
        CHECK.sentence("also instructions beyond RAM");
        int[] sizes = {16, 17, 4096};
        for (int words : sizes) {
            int end = Rig.RAM + 4 * words;
            one(words, Asm.jalr(0, 2, 0), end - 4).poke(words - 1, Asm.NOP).steps("JALR", 0).steps("last word", 0)
                .stands("last word", 3, end).traps("beyond", 1, end);
        }
        int[] places = {0, Rig.RAM - 4, MSIP, MTIMECMP, MTIME, Console.PLACE, -4, END, 0x40000000};
        for (int place : places) {
            String what = "at 0x" + Integer.toHexString(place);
            for (int hart = 0; hart < 2; hart++) {
                new Rig(CHECK, Asm.jalr(0, 2, 0)).onHart(hart).with(2, place).steps("JALR", 0).traps(what, 1, place);
            }
        }
    }

    private static void claimsBeyondRam() {
        CHECK.sentence("and what is told of words that are claimed");
        int[] places = {0, MSIP, MSIP + 4, MTIMECMP, MTIMECMP + 12, MTIME, MTIME + 4, Console.PLACE, Rig.RAM - 4, END,
            -4};
        for (int place : places) {
            String what = "0x" + Integer.toHexString(place);
            new Rig(CHECK, Asm.lr(1, 2)).with(1, 9).with(2, place).traps("LR at " + what, 5, place).holds(what, 1, 9);
            for (int kind : CHANGES) {
                new Rig(CHECK, Asm.atomic(kind, 1, 2, 3)).with(1, 9).with(2, place)
                    .traps("kind " + kind + " at " + what, 7, place).holds(what, 1, 9).printed(what, 0);
            }
        }
    }
}
