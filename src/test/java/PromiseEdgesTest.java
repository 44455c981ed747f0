/** Promises 1 to 14: each sentence that names an edge, with a test of its own. */
public final class PromiseEdgesTest {
    private static final Check CHECK = new Check();
    private static final int MIN = Integer.MIN_VALUE;
    private static final int MAX = Integer.MAX_VALUE;
    private static final int[] NO_HART = {-1, 2, 3, 32, MIN, MAX};
    private static final int[] NO_REGISTER = {-1, 32, 33, 64, MIN, MAX};
    private static final int[] NO_NUMBER = {0, -1, 0x101, 0x2FF, 0x306, 0x33F, 0x345, 0x301 + 4096, 0x301 + 65536,
        0x301 | MIN, -0x301, MIN, MAX};

    public static void main(String[] args) {
        callsOfAnObject();
        constants();
        newObject();
        reset();
        poke();
        peek();
        step();
        tick();
        registers();
        set();
        pc();
        csr();
        put();
        level();
        size();
        out();
        CHECK.end();
    }

    private static void callsOfAnObject() {
        CHECK.sentence("An object is used for at most 512 calls after it has been made");
        TwinHart machine = new TwinHart(16);
        machine.poke(0, Asm.addi(1, 1, 1));
        machine.poke(1, Asm.jal(0, -4));
        for (int call = 3; call <= 510; call++) {
            CHECK.due("call " + call, machine.step(0), 0);
        }
        CHECK.due("call 511", machine.register(0, 1), 254);
        CHECK.due("call 512", machine.pc(0), 0x80000000);
    }

    private static void constants() {
        CHECK.sentence("`NONE = -1`: Nothing there.");
        CHECK.due("NONE", TwinHart.NONE, -1);
        TwinHart machine = new TwinHart(16);
        CHECK.due("step(2)", machine.step(2), -1);
        CHECK.due("level(2)", machine.level(2), -1);
        CHECK.due("out(0)", machine.out(0), -1);
    }

    private static void newObject() {
        CHECK.sentence("So many words of RAM, 16 .. 4096 (what is less or more is the nearest of these)");
        int[][] rows = {{MIN, 16}, {-4096, 16}, {-1, 16}, {0, 16}, {1, 16}, {15, 16}, {16, 16}, {17, 17}, {64, 64},
            {4095, 4095}, {4096, 4096}, {4097, 4096}, {65552, 4096}, {MAX, 4096}};
        for (int[] row : rows) {
            holdsWords(row[0], row[1]);
        }
        CHECK.sentence("all 0");
        int[] sizes = {16, 4096};
        for (int words : sizes) {
            for (int from = 0; from < words; from += 256) {
                TwinHart machine = new TwinHart(words);
                for (int k = from; k < Math.min(words, from + 256); k++) {
                    CHECK.due("peek(" + k + ")", machine.peek(k), 0);
                }
            }
        }
        CHECK.sentence("both harts as at the beginning");
        TwinHart first = new TwinHart(16);
        Beginning.ofHarts(CHECK, "new", first);
        Beginning.ofClock(CHECK, "new", first);
        CHECK.due("size()", first.size(), 0);
        spoil(new TwinHart(16));
        TwinHart second = new TwinHart(16);
        CHECK.due("another object's RAM", second.peek(15), 0);
        Beginning.ofHarts(CHECK, "after another object", second);
        Beginning.ofClock(CHECK, "after another object", second);
        CHECK.due("another object's bytes", second.size(), 0);
    }

    private static void holdsWords(int asked, int got) {
        String what = "new TwinHart(" + asked + ")";
        TwinHart machine = new TwinHart(asked);
        CHECK.due(what + ": poke of the last word", machine.poke(got - 1, 7), true);
        CHECK.due(what + ": peek of the last word", machine.peek(got - 1), 7);
        CHECK.due(what + ": poke beyond", machine.poke(got, 7), false);
        CHECK.due(what + ": peek beyond", machine.peek(got), 0);
        machine.poke(0, Asm.load(2, 1, 2, 0));
        machine.set(0, 2, 0x80000000 + 4 * (got - 1));
        CHECK.due(what + ": load of the last word", machine.step(0), 0);
        CHECK.due(what + ": the last word", machine.register(0, 1), 7);
        machine.set(1, 2, 0x80000000 + 4 * got);
        CHECK.due(what + ": load beyond", machine.step(1), 6);
    }

    /** Leaves nothing as at the beginning: both harts, both msip, the whole clock, one byte put out. */
    private static void spoil(TwinHart machine) {
        int[] stores = {0x02000000, 0x02000004, 0x02004000, 0x02004004, 0x02004008, 0x0200400C, 0x0200BFF8, 0x0200BFFC};
        for (int k = 0; k < stores.length; k++) {
            machine.poke(k, Asm.store(2, 3, 2, 0));
            machine.set(0, 3, 5);
            machine.set(0, 2, stores[k]);
            CHECK.due("store to the clock", machine.step(0), 0);
        }
        machine.poke(8, Asm.store(0, 3, 2, 0));
        machine.set(0, 2, Console.PLACE);
        CHECK.due("store to the console", machine.step(0), 0);
        machine.poke(9, Asm.MRET);
        machine.put(0, Rig.MEPC, 64);
        CHECK.due("MRET", machine.step(0), 0);
        machine.poke(0, Asm.MRET);
        machine.put(1, Rig.MEPC, 64);
        CHECK.due("MRET", machine.step(1), 0);
        for (int hart = 0; hart < 2; hart++) {
            for (int number : Beginning.ZEROS) {
                machine.put(hart, number, -1);
            }
            for (int i = 1; i < 32; i++) {
                machine.set(hart, i, i);
            }
        }
        machine.poke(15, 77);
    }

    private static void reset() {
        CHECK.sentence("Both harts, the clock and msip are as at the beginning");
        TwinHart spoiled = new TwinHart(16);
        spoil(spoiled);
        spoiled.reset();
        Beginning.ofHarts(CHECK, "after reset", spoiled);
        Beginning.ofClock(CHECK, "after reset", spoiled);
        TwinHart ticked = new TwinHart(16);
        ticked.tick();
        ticked.reset();
        Beginning.ofClock(CHECK, "after tick and reset", ticked);
        TwinHart fresh = new TwinHart(16);
        fresh.reset();
        fresh.reset();
        Beginning.ofHarts(CHECK, "reset of a new object", fresh);
        Beginning.ofClock(CHECK, "reset of a new object", fresh);
        resetTakesClaims();
        CHECK.sentence("RAM and what was put out stay");
        spoil(spoiled = new TwinHart(16));
        spoiled.reset();
        CHECK.due("peek(15)", spoiled.peek(15), 77);
        CHECK.due("peek(9)", spoiled.peek(9), Asm.MRET);
        CHECK.due("peek(0)", spoiled.peek(0), Asm.MRET);
        CHECK.due("size()", spoiled.size(), 1);
        CHECK.due("out(0)", spoiled.out(0), 5);
        TwinHart full = new TwinHart(64);
        Console.fill(full, 256);
        full.reset();
        full.set(0, 2, Console.PLACE);
        CHECK.due("store after reset", full.step(0), 0);
        CHECK.due("size() when full", full.size(), 256);
        CHECK.due("out(0) when full", full.out(0), Console.byteOf(0));
        CHECK.due("out(255) when full", full.out(255), Console.byteOf(255));
    }

    private static void resetTakesClaims() {
        CHECK.sentence("nothing is claimed");
        for (int hart = 0; hart < 2; hart++) {
            TwinHart machine = new TwinHart(16);
            machine.poke(0, Asm.lr(1, 2));
            machine.set(hart, 2, 0x80000020);
            CHECK.due("LR", machine.step(hart), 0);
            machine.reset();
            machine.poke(0, Asm.sc(1, 2, 3));
            machine.set(hart, 2, 0x80000020);
            machine.set(hart, 3, 9);
            CHECK.due("SC", machine.step(hart), 0);
            CHECK.due("rd of SC", machine.register(hart, 1), 1);
            CHECK.due("word of SC", machine.peek(8), 0);
        }
    }

    private static void poke() {
        CHECK.sentence("Word k of RAM, from 0 on: true; false if there is none such.");
        int[] sizes = {16, 17, 4096};
        for (int words : sizes) {
            TwinHart machine = new TwinHart(words);
            CHECK.due("poke(0, MIN)", machine.poke(0, MIN), true);
            CHECK.due("poke(last, -1)", machine.poke(words - 1, -1), true);
            int[] none = {-1, words, words + 1, -words, 1 << 29, 1 << 30, MIN, MAX, 0x80000000 + 4};
            for (int k : none) {
                CHECK.due("poke(" + k + ", 5)", machine.poke(k, 5), false);
            }
            CHECK.due("peek(0)", machine.peek(0), MIN);
            CHECK.due("peek(1)", machine.peek(1), 0);
            CHECK.due("peek(last - 1)", machine.peek(words - 2), 0);
            CHECK.due("peek(last)", machine.peek(words - 1), -1);
        }
        CHECK.sentence("(No claim goes.)");
        for (int hart = 0; hart < 2; hart++) {
            Rig rig = new Rig(CHECK, Asm.lr(1, 2), Asm.sc(1, 2, 3)).onHart(hart).with(2, 0x80000020).with(3, 9);
            rig.steps("LR", 0).poke(8, 44).poke(9, 45).poke(-1, 46).poke(4096, 47);
            rig.steps("SC", 0).holds("SC", 1, 0).keeps("SC", 8, 9);
        }
    }

    private static void peek() {
        CHECK.sentence("Word k of RAM; 0 if there is none such.");
        TwinHart machine = new TwinHart(16);
        for (int k = 0; k < 16; k++) {
            machine.poke(k, 100 + k);
        }
        for (int k = 0; k < 16; k++) {
            CHECK.due("peek(" + k + ")", machine.peek(k), 100 + k);
        }
        int[] none = {-1, -16, 16, 17, 32, 4096, 1 << 29, 1 << 30, MIN, MAX, 0x80000000 + 4};
        for (int k : none) {
            CHECK.due("peek(" + k + ")", machine.peek(k), 0);
        }
    }

    private static void step() {
        CHECK.sentence("0 an instruction was done");
        for (int hart = 0; hart < 2; hart++) {
            new Rig(CHECK, Asm.addi(1, 0, 7)).onHart(hart).steps("addi", 0).holds("addi", 1, 7)
                .stands("addi", 3, Rig.RAM + 4).onHart(1 - hart).holds("other", 1, 0).stands("other", 3, Rig.RAM);
        }
        CHECK.sentence("1 + cause a trap");
        new Rig(CHECK, Asm.jal(0, 2)).steps("the least cause", 1);
        new Rig(CHECK, Asm.ECALL).steps("ECALL at M", 12);
        new Rig(CHECK, Asm.store(2, 1, 2, 0)).put(Rig.MSTATUS, 0x20800).put(Rig.SATP, 0x80080001)
            .steps("the greatest cause", 16);
        CHECK.sentence("64 + cause (without bit 31) an interrupt was taken");
        int[] causes = {1, 5, 9};
        for (int cause : causes) {
            new Rig(CHECK, Asm.NOP).put(Rig.MSTATUS, 8).put(Rig.MIE, -1).put(Rig.MIP, 1 << cause)
                .steps("interrupt", 64 + cause).reads("interrupt", Rig.MCAUSE, MIN | cause);
        }
        new Rig(CHECK, Asm.store(2, 1, 2, 0)).with(1, 1).with(2, 0x02000000).put(Rig.MIE, -1).put(Rig.MSTATUS, 8)
            .steps("msip", 0).steps("interrupt", 67).reads("interrupt", Rig.MCAUSE, MIN | 3);
        new Rig(CHECK, Asm.store(2, 0, 2, 4)).with(2, 0x02004000).put(Rig.MIE, -1).put(Rig.MSTATUS, 8)
            .steps("mtimecmp", 0).poke(1, Asm.store(2, 0, 2, 0)).steps("mtimecmp", 0)
            .steps("interrupt", 71).reads("interrupt", Rig.MCAUSE, MIN | 7);
        CHECK.sentence("NONE, and nothing happens, if there is none such");
        for (int none : NO_HART) {
            stepOfNone(none);
        }
    }

    /** An interrupt is due on each hart, and hart 0 claims a word: a step of no hart leaves all that. */
    private static void stepOfNone(int none) {
        Rig rig = new Rig(CHECK, Asm.lr(1, 2), Asm.sc(1, 2, 3)).with(2, 0x80000020).with(3, 9).steps("LR", 0);
        for (int hart = 0; hart < 2; hart++) {
            rig.onHart(hart).put(Rig.MIE, 2).put(Rig.MIP, 2).put(Rig.MSTATUS, 8);
        }
        CHECK.due("step(" + none + ")", rig.machine.step(none), TwinHart.NONE);
        rig.onHart(1).stands("hart 1", 3, Rig.RAM).reads("hart 1", Rig.MCAUSE, 0).reads("hart 1", Rig.MSTATUS, 8);
        rig.onHart(0).stands("hart 0", 3, Rig.RAM + 4).reads("hart 0", Rig.MCAUSE, 0).reads("hart 0", Rig.MSTATUS, 8);
        rig.put(Rig.MIE, 0).steps("SC", 0).holds("SC", 1, 0).keeps("SC", 8, 9).printed("SC", 0);
    }

    private static void tick() {
        CHECK.sentence("mtime is one more");
        int[][] moves = {
            // lower and upper word before, lower and upper word after
            {0, 0, 1, 0}, {-2, 0, -1, 0}, {-1, 0, 0, 1}, {MAX, 0, MIN, 0}, {-1, MAX, 0, MIN}, {-2, -1, -1, -1},
            {-1, -1, 0, 0},
        };
        for (int[] move : moves) {
            String what = "from " + move[1] + ", " + move[0];
            Rig rig = new Rig(CHECK, Asm.store(2, 3, 2, 0), Asm.store(2, 4, 2, 4), Asm.load(2, 3, 2, 0),
                Asm.load(2, 4, 2, 4)).with(2, 0x0200BFF8).with(3, move[0]).with(4, move[1]);
            rig.steps(what, 0).steps(what, 0);
            rig.machine.tick();
            rig.steps(what, 0).steps(what, 0).holds(what, 3, move[2]).holds(what, 4, move[3]);
            boolean allOnes = move[2] == -1 && move[3] == -1;
            rig.reads(what, Rig.MIP, allOnes ? 0x80 : 0).onHart(1).reads(what, Rig.MIP, allOnes ? 0x80 : 0);
        }
        Rig rig = new Rig(CHECK, Asm.load(2, 3, 2, 0), Asm.load(2, 3, 2, 0)).with(2, 0x0200BFF8);
        rig.steps("no tick", 0).holds("no tick", 3, 0).steps("steps do not tick", 0).holds("steps do not tick", 3, 0);
        rig = new Rig(CHECK, Asm.load(2, 3, 2, 0)).with(2, 0x0200BFF8);
        for (int n = 0; n < 300; n++) {
            rig.machine.tick();
        }
        rig.steps("many ticks", 0).holds("many ticks", 3, 300);
    }

    private static void registers() {
        CHECK.sentence("A register of a hart; 0 if there is none such.");
        TwinHart machine = new TwinHart(16);
        for (int i = 0; i < 32; i++) {
            machine.set(0, i, 100 + i);
            machine.set(1, i, -100 - i);
        }
        for (int i = 1; i < 32; i++) {
            CHECK.due("register(0, " + i + ")", machine.register(0, i), 100 + i);
            CHECK.due("register(1, " + i + ")", machine.register(1, i), -100 - i);
        }
        for (int i : NO_REGISTER) {
            CHECK.due("register(0, " + i + ")", machine.register(0, i), 0);
            CHECK.due("register(1, " + i + ")", machine.register(1, i), 0);
        }
        for (int none : NO_HART) {
            CHECK.due("register(" + none + ", 1)", machine.register(none, 1), 0);
            CHECK.due("register(" + none + ", 31)", machine.register(none, 31), 0);
            CHECK.due("register(" + none + ", -1)", machine.register(none, -1), 0);
        }
    }

    private static void set() {
        CHECK.sentence("A register of a hart but x0 is another number: true; false if there is none such.");
        TwinHart machine = new TwinHart(16);
        int[] numbers = {MIN, -1, 0, 1, MAX};
        for (int v : numbers) {
            for (int hart = 0; hart < 2; hart++) {
                CHECK.due("set(" + hart + ", 1, " + v + ")", machine.set(hart, 1, v), true);
                CHECK.due("set(" + hart + ", 31, " + v + ")", machine.set(hart, 31, v), true);
                CHECK.due("register(" + hart + ", 1)", machine.register(hart, 1), v);
                CHECK.due("register(" + hart + ", 31)", machine.register(hart, 31), v);
                CHECK.due("set(" + hart + ", 0, " + v + ")", machine.set(hart, 0, v), false);
                CHECK.due("register(" + hart + ", 0)", machine.register(hart, 0), 0);
            }
        }
        machine = new TwinHart(16);
        for (int i : NO_REGISTER) {
            CHECK.due("set(0, " + i + ", 5)", machine.set(0, i, 5), false);
            CHECK.due("set(1, " + i + ", 5)", machine.set(1, i, 5), false);
        }
        for (int none : NO_HART) {
            CHECK.due("set(" + none + ", 1, 5)", machine.set(none, 1, 5), false);
            CHECK.due("set(" + none + ", 0, 5)", machine.set(none, 0, 5), false);
        }
        Beginning.ofHarts(CHECK, "what is refused changes nothing", machine);
    }

    private static void pc() {
        CHECK.sentence("A hart's pc; 0 if there is none such.");
        Rig rig = new Rig(CHECK, Asm.jalr(0, 1, 0)).with(1, -4).steps("jalr", 0);
        CHECK.due("pc(0)", rig.machine.pc(0), -4);
        CHECK.due("pc(1)", rig.machine.pc(1), 0x80000000);
        for (int none : NO_HART) {
            CHECK.due("pc(" + none + ")", rig.machine.pc(none), 0);
        }
    }

    private static void csr() {
        CHECK.sentence("A hart's CSR, as it is read; 0 if there is none such, or not that number.");
        TwinHart machine = new TwinHart(16);
        for (int hart = 0; hart < 2; hart++) {
            machine.put(hart, Rig.MSCRATCH, 5 + hart);
            CHECK.due("csr(" + hart + ", mscratch)", machine.csr(hart, Rig.MSCRATCH), 5 + hart);
            machine.put(hart, Rig.MEPC, 7);
            CHECK.due("csr(" + hart + ", mepc), as it is read", machine.csr(hart, Rig.MEPC), 4);
            for (int number : NO_NUMBER) {
                CHECK.due("csr(" + hart + ", " + number + ")", machine.csr(hart, number), 0);
            }
        }
        for (int none : NO_HART) {
            CHECK.due("csr(" + none + ", misa)", machine.csr(none, 0x301), 0);
            CHECK.due("csr(" + none + ", mhartid)", machine.csr(none, 0xF14), 0);
            CHECK.due("csr(" + none + ", mscratch)", machine.csr(none, Rig.MSCRATCH), 0);
            CHECK.due("csr(" + none + ", 0)", machine.csr(none, 0), 0);
        }
    }

    private static void put() {
        CHECK.sentence("A hart's CSR becomes a number, as if written at M: true");
        int[] levels = {0, 1, 3};
        for (int level : levels) {
            for (int hart = 0; hart < 2; hart++) {
                Rig rig = new Rig(CHECK).onHart(hart).at(level, Rig.RAM);
                CHECK.due("put(mscratch)", rig.machine.put(hart, Rig.MSCRATCH, -7), true);
                CHECK.due("put(sscratch)", rig.machine.put(hart, Rig.SSCRATCH, -8), true);
                CHECK.due("put(misa)", rig.machine.put(hart, 0x301, 0), true);
                CHECK.due("put(mstatus)", rig.machine.put(hart, Rig.MSTATUS, -1), true);
                rig.reads("put", Rig.MSCRATCH, -7).reads("put", Rig.SSCRATCH, -8).reads("put", 0x301, 0x40141101)
                    .reads("put", Rig.MSTATUS, 0xE19AA).stands("put", level, Rig.RAM);
                rig.onHart(1 - hart).reads("other", Rig.MSCRATCH, 0).reads("other", Rig.SSCRATCH, 0)
                    .reads("other", Rig.MSTATUS, 0);
            }
        }
        CHECK.sentence("false if there is none such, or bits 10, 11 of its number are both 1");
        int[] bothOnes = {0xC00, 0xF10, 0xF11, 0xF12, 0xF13, 0xF14, 0xF15, 0xFFF};
        TwinHart machine = new TwinHart(16);
        for (int hart = 0; hart < 2; hart++) {
            for (int number : bothOnes) {
                CHECK.due("put(" + hart + ", " + number + ", -1)", machine.put(hart, number, -1), false);
            }
            for (int number : NO_NUMBER) {
                CHECK.due("put(" + hart + ", " + number + ", -1)", machine.put(hart, number, -1), false);
            }
        }
        for (int none : NO_HART) {
            CHECK.due("put(" + none + ", mscratch, 5)", machine.put(none, Rig.MSCRATCH, 5), false);
            CHECK.due("put(" + none + ", misa, 5)", machine.put(none, 0x301, 5), false);
            CHECK.due("put(" + none + ", 0xF14, 5)", machine.put(none, 0xF14, 5), false);
        }
        Beginning.ofHarts(CHECK, "what is refused changes nothing", machine);
    }

    private static void level() {
        CHECK.sentence("A hart's level; NONE if there is none such.");
        int[] levels = {0, 1, 3};
        for (int level : levels) {
            Rig rig = new Rig(CHECK).onHart(1).at(level, 64);
            CHECK.due("level(1)", rig.machine.level(1), level);
            CHECK.due("level(0)", rig.machine.level(0), 3);
            for (int none : NO_HART) {
                CHECK.due("level(" + none + ")", rig.machine.level(none), TwinHart.NONE);
            }
        }
    }

    private static void size() {
        CHECK.sentence("How many bytes were put out (and not lost).");
        int[][] rows = {{0, 0}, {1, 1}, {255, 255}, {256, 256}, {257, 256}, {260, 256}};
        for (int[] row : rows) {
            TwinHart machine = new TwinHart(64);
            Console.fill(machine, row[0]);
            CHECK.due("size() after " + row[0], machine.size(), row[1]);
        }
        new Rig(CHECK, Asm.store(1, 1, 2, 0)).with(2, Console.PLACE).steps("sh", 8).printed("sh", 0);
    }

    private static void out() {
        CHECK.sentence("Byte i of these, 0 .. 255");
        int[] bytes = {0, 1, 127, 128, 254, 255};
        for (int b : bytes) {
            Rig rig = new Rig(CHECK, Asm.store(0, 1, 2, 0)).with(1, 0xABCDEF00 | b).with(2, Console.PLACE)
                .steps("sb", 0);
            CHECK.due("out(0)", rig.machine.out(0), b);
        }
        TwinHart full = new TwinHart(64);
        Console.fill(full, 258);
        for (int i = 0; i < 256; i += i < 30 || i > 220 ? 1 : 17) {
            CHECK.due("out(" + i + ")", full.out(i), Console.byteOf(i));
        }
        CHECK.sentence("NONE if there is none such");
        int[] counts = {0, 1, 255, 256, 257};
        for (int count : counts) {
            TwinHart machine = new TwinHart(64);
            Console.fill(machine, count);
            int there = Math.min(count, 256);
            int[] none = {-1, -256, there, there + 1, 256, 257, 512, MIN, MAX};
            for (int i : none) {
                CHECK.due("out(" + i + ") of " + count, machine.out(i), TwinHart.NONE);
            }
        }
    }
}
