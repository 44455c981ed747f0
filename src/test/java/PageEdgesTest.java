/** Terms, PAGES: each sentence that names an edge, with a test of its own. */
public final class PageEdgesTest extends Paged {
    private static final int LR = Asm.lr(1, 2);
    private static final int SC = Asm.sc(1, 2, 3);
    private static final int SUM_OF_WORD = Asm.atomic(0, 1, 2, 3);
    private static final int[] CHANGES = {3, 0, 1, 4, 8, 0xC, 0x10, 0x14, 0x18, 0x1C};

    public static void main(String[] args) {
        whenThereArePages();
        numbersOfAddresses();
        entries();
        entriesBeyondRam();
        withoutValid();
        leadsToTheSecond();
        userPages();
        supervisorPages();
        instructionsWant();
        loadsWant();
        storesWant();
        accessedAndDirty();
        firstEntriesAreStraight();
        places();
        placesOfFirstEntries();
        placesAbove();
        changesAreStores();
        allBits();
        CHECK.end();
    }

    private static void whenThereArePages() {
        CHECK.sentence("for instructions at a level below M, for loads and stores at a level "
            + "(with MPRV, at M: MPP instead) below M, if bit 31 of satp is 1");
        for (int level = 0; level < 2; level++) {
            int bits = level == 0 ? ALL | U : ALL;
            paged(level, bits, LOAD, STORE).steps("pages", 0).holds("pages", 1, 777).steps("pages", 0)
                .keeps("pages", DATA + 2, 55);
            paged(level, bits, LOAD).poke(CODE_ENTRY, 0).traps("instruction", 12, CODE);
            paged(level, bits, LOAD, STORE).put(Rig.SATP, SATP & 0x7FFFFFFF).traps("bit 31 is 0", 5, ADDRESS);
            paged(level, bits, LOAD).put(Rig.SATP, 0x3FFFFF).with(2, CODE).steps("bit 31 is 0", 0)
                .holds("bit 31", 1, LOAD);
            paged(level, bits, LOAD).put(Rig.MSTATUS, MPRV | 0x1800).steps("MPRV counts at M alone", 0)
                .holds("MPRV", 1, 777);
        }
        paged(3, ALL, LOAD).traps("M", 5, ADDRESS);
        paged(3, ALL, STORE).traps("M", 7, ADDRESS);
        paged(3, ALL, LOAD).poke(CODE_ENTRY, 0).with(2, CODE).steps("M", 0).holds("M", 1, LOAD);
        paged(3, ALL, LOAD).put(Rig.MSTATUS, 0x800).traps("M without MPRV, MPP S", 5, ADDRESS);
        paged(3, ALL, LOAD).put(Rig.MSTATUS, MPRV | 0x1800).traps("MPRV, MPP M", 5, ADDRESS);
        paged(3, ALL, LOAD, STORE).put(Rig.MSTATUS, MPRV | 0x800).steps("MPRV, MPP S", 0).holds("MPRV, MPP S", 1, 777)
            .steps("MPRV, MPP S", 0).keeps("MPRV, MPP S", DATA + 2, 55);
        paged(3, ALL | U, LOAD, STORE).put(Rig.MSTATUS, MPRV).steps("MPRV, MPP U", 0).holds("MPRV, MPP U", 1, 777)
            .steps("MPRV, MPP U", 0).keeps("MPRV, MPP U", DATA + 2, 55);
        paged(3, ALL, LOAD).put(Rig.MSTATUS, MPRV).traps("MPRV, MPP U, not of U", 13, ADDRESS);
        paged(3, ALL | U, LOAD).put(Rig.MSTATUS, MPRV | 0x800).traps("MPRV, MPP S, of U", 13, ADDRESS);
        paged(3, ALL, Asm.NOP).put(Rig.MSTATUS, MPRV).poke(CODE_ENTRY, 0).steps("MPRV is not of instructions", 0);
        paged(3, ALL, LOAD).put(Rig.MSTATUS, MPRV | 0x800).put(Rig.SATP, 0).traps("MPRV, bit 31 is 0", 5, ADDRESS);
        paged(3, ALL, LR, SC).put(Rig.MSTATUS, MPRV | 0x800).steps("LR", 0).holds("LR", 1, 777).steps("SC", 0)
            .keeps("SC", DATA + 2, 55);
        paged(1, ALL, LOAD).onHart(1).with(2, ADDRESS).traps("the other hart's satp", 5, ADDRESS);
    }

    private static void numbersOfAddresses() {
        CHECK.sentence("The address has a first number (bits 22 .. 31), a second (12 .. 21), a rest.");
        int[] numbers = {0, 1, 2, 4, 8, 16, 32, 64, 128, 256, 511, 512, 1022, 1023};
        int[] rests = {0, 4, 8, 2048, 4092};
        for (int first : numbers) {
            for (int second : numbers) {
                int rest = rests[(first + second) % rests.length];
                int address = first << 22 | second << 12 | rest;
                Rig rig = new Rig(CHECK, LOAD).put(Rig.MSTATUS, MPRV | 0x800).put(Rig.SATP, SATP).with(2, address);
                rig.poke(FIRST + first, entry(0x80002, V)).poke(SECOND + second, entry(0x80003, ALL));
                rig.poke(DATA + rest / 4, 888).steps("load", 0).holds(first + ", " + second + ", " + rest, 1, 888);
            }
        }
    }

    private static void entries() {
        CHECK.sentence("An ENTRY is the word at 4096 * p + 4 * number, "
            + "p being the lower 22 bits of satp and the first number, "
            + "then bits 10 .. 31 of the entry before and the second");
        for (int table = 1; table < 4; table++) {
            for (int next = 1; next < 4; next++) {
                if (next != table) {
                    int data = 6 - table - next;
                    Rig rig = new Rig(CHECK, LOAD).put(Rig.MSTATUS, MPRV | 0x800).with(2, ADDRESS);
                    rig.put(Rig.SATP, 0x80080000 | table).poke(1024 * table + 1, entry(0x80000 | next, V));
                    rig.poke(1024 * next + 3, entry(0x80000 | data, ALL)).poke(1024 * data + 2, 888);
                    rig.steps("load", 0).holds("tables " + table + ", " + next, 1, 888);
                }
            }
        }
        int[] free = {U, 32, A, D, 0x100, 0x200, U | 32 | A | D | 0x300};
        for (int bits : free) {
            paged(1, ALL, LOAD).poke(FIRST + 1, entry(0x80002, V | bits)).steps("bits that say nothing", 0)
                .holds("bits that say nothing", 1, 777);
        }
        int[] alsoFree = {32, 0x100, 0x200, 0x320};
        for (int bits : alsoFree) {
            paged(1, ALL | bits, LOAD).steps("bits that say nothing", 0).holds("bits that say nothing", 1, 777);
        }
        paged(1, ALL, LOAD, LOAD).steps("load", 0).poke(SECOND + 3, entry(0x80000, ALL)).steps("as it is now", 0)
            .holds("as it is now", 1, 0);
    }

    private static void entriesBeyondRam() {
        CHECK.sentence("no RAM there: access fault");
        int[] roots = {0, 0x7FFFF, 0x80004, 0x2000, 0x2004, 0x200B, 0x10000, 0x100000, 0x180001, 0x280001, 0x380001,
            0x3FFFFF};
        for (int root : roots) {
            String what = "page " + Integer.toHexString(root);
            paged(1, ALL, LOAD).put(Rig.SATP, 0x80000000 | root).traps("instruction, first, " + what, 1, CODE);
            paged(1, ALL, Asm.jalr(0, 2, 0)).poke(FIRST + 1, entry(root, V)).steps("JALR", 0)
                .traps("instruction, second, " + what, 1, ADDRESS);
            faults(what, LOAD, root, 5);
            faults(what, STORE, root, 7);
            faults(what, LR, root, 5);
            faults(what, SC, root, 7);
            faults(what, SUM_OF_WORD, root, 7);
        }
        for (int number = 0; number < 8; number++) {
            Rig rig = Rig.ofWords(CHECK, 20, LOAD).put(Rig.MSTATUS, MPRV | 0x800).put(Rig.SATP, 0x80080000);
            rig.with(2, 16 + number << 22);
            String what = "entry " + (16 + number) + " of 20 words";
            rig.traps(what, number < 4 ? 13 : 5, 16 + number << 22);
        }
    }

    private static void faults(String what, int word, int root, int cause) {
        paged(3, ALL, word).put(Rig.MSTATUS, MPRV | 0x800).put(Rig.SATP, 0x80000000 | root).with(1, 9)
            .traps("first, " + what, cause, ADDRESS).holds(what, 1, 9);
        paged(1, ALL, word).poke(FIRST + 1, entry(root, V)).with(1, 9).traps("second, " + what, cause, ADDRESS)
            .holds(what, 1, 9);
    }

    /** The entry of the data with bits: a load, a store and an instruction there, all with page faults. */
    private static void allFault(String what, int level, int status, int bits) {
        paged(level, bits, LOAD).put(Rig.MSTATUS, status).traps(what, 13, ADDRESS).holds(what, 1, 0);
        paged(level, bits, STORE).put(Rig.MSTATUS, status).traps(what, 15, ADDRESS).keeps(what, DATA + 2, 777);
        paged(level, bits, Asm.jalr(0, 2, 0)).put(Rig.MSTATUS, status).steps("JALR", 0).traps(what, 12, ADDRESS);
    }

    /** The first entry, that would be a page of 4 MiB, with bits. */
    private static void allFaultInFirst(String what, int bits) {
        int first = entry(0x80000, bits);
        paged(1, ALL, LOAD).poke(FIRST + 1, first).traps(what, 13, ADDRESS);
        paged(1, ALL, STORE).poke(FIRST + 1, first).traps(what, 15, ADDRESS).keeps(what, DATA + 2, 777);
        paged(1, ALL, Asm.jalr(0, 2, 0)).poke(FIRST + 1, first).steps("JALR", 0).traps(what, 12, ADDRESS);
    }

    private static void withoutValid() {
        CHECK.sentence("Without V, or W without R: page fault.");
        int[] bits = {0, ALL & ~V, R | A, V | W, V | W | X, V | W | A | D, V | W | X | A | D, ALL & ~R, 0x3FE, 0x3F4};
        for (int b : bits) {
            allFault("second " + Integer.toHexString(b), 1, SUM | MXR, b);
            allFaultInFirst("first " + Integer.toHexString(b), b);
        }
        paged(1, ALL, LOAD).poke(FIRST + 1, entry(0x80002, 0))
            .traps("a first one without V leads nowhere", 13, ADDRESS);
        paged(1, ALL, LOAD).poke(FIRST + 1, entry(0x80002, V | W))
            .traps("a first one with W leads nowhere", 13, ADDRESS);
    }

    private static void leadsToTheSecond() {
        CHECK.sentence("Without R and X: it leads to the second entry; the second one so: page fault.");
        int[] bits = {V, V | U, V | A, V | D, V | U | A | D | 32 | 0x300};
        for (int b : bits) {
            paged(1, ALL, LOAD).poke(FIRST + 1, entry(0x80002, b)).steps("leads on", 0).holds("leads on", 1, 777);
            allFault("second " + Integer.toHexString(b), 1, SUM | MXR, b);
        }
        paged(1, ALL, LOAD).poke(FIRST + 1, entry(0x80002, V | R | A))
            .traps("with R it is the page itself", 13, ADDRESS);
        paged(1, ALL, LOAD).poke(FIRST + 1, entry(0x80000, V | R | A)).poke(SECOND + 3, 0)
            .steps("with R it is the page itself", 0).holds("with R it is the page itself", 1, 777);
        paged(1, ALL, Asm.jalr(0, 2, 0)).poke(FIRST + 1, entry(0x80000, V | X | A)).poke(SECOND + 3, 0)
            .poke(DATA + 2, Asm.addi(4, 0, 6)).steps("JALR", 0).steps("with X, too", 0).holds("with X, too", 4, 6);
    }

    private static void userPages() {
        CHECK.sentence("at U it must have U");
        int[] statuses = {0, SUM, MXR, SUM | MXR};
        for (int status : statuses) {
            allFault("without U", 0, status, ALL);
            paged(0, ALL | U, LOAD, STORE).put(Rig.MSTATUS, status).steps("with U", 0).holds("with U", 1, 777)
                .steps("with U", 0).keeps("with U", DATA + 2, 55);
        }
        paged(0, ALL | U, Asm.NOP).poke(CODE_ENTRY, entry(0x80000, ALL)).traps("instruction without U", 12, CODE);
        paged(0, ALL | U, Asm.NOP).steps("instruction with U", 0);
    }

    private static void supervisorPages() {
        CHECK.sentence("at S it must not, but for loads and stores with SUM");
        allFault("with U", 1, 0, ALL | U);
        allFault("with U, MXR", 1, MXR, ALL | U);
        paged(1, ALL | U, LOAD, STORE).put(Rig.MSTATUS, SUM).steps("SUM", 0).holds("SUM", 1, 777).steps("SUM", 0)
            .keeps("SUM", DATA + 2, 55);
        paged(1, ALL | U, LR, SC).put(Rig.MSTATUS, SUM).steps("LR, SUM", 0).holds("LR, SUM", 1, 777).steps("SC, SUM", 0)
            .holds("SC, SUM", 1, 0);
        paged(1, ALL | U, Asm.jalr(0, 2, 0)).put(Rig.MSTATUS, SUM).steps("JALR", 0)
            .traps("instruction, SUM", 12, ADDRESS);
        paged(1, ALL, LOAD, STORE).put(Rig.MSTATUS, SUM).steps("without U, SUM", 0).holds("without U", 1, 777)
            .steps("without U, SUM", 0);
        paged(1, ALL, LOAD, STORE).steps("without U", 0).holds("without U", 1, 777).steps("without U", 0);
    }

    private static void instructionsWant() {
        CHECK.sentence("an instruction wants X");
        int[] with = {V | X | A, V | R | X | A, ALL, V | X | A | D};
        for (int bits : with) {
            paged(1, bits, Asm.jalr(0, 2, 0)).poke(DATA + 2, Asm.addi(4, 0, 6)).steps("JALR", 0).steps("with X", 0)
                .holds("with X", 4, 6).stands("with X", 1, ADDRESS + 4);
        }
        int[] without = {V | R | A, V | R | W | A | D, ALL & ~X};
        for (int bits : without) {
            paged(1, bits, Asm.jalr(0, 2, 0)).put(Rig.MSTATUS, MXR).steps("JALR", 0).traps("without X", 12, ADDRESS);
        }
    }

    private static void loadsWant() {
        CHECK.sentence("a load R (with MXR, R or X)");
        int[] loads = {LOAD, Asm.load(2, 1, 2, 0), LR};
        for (int word : loads) {
            paged(1, V | R | A, word).steps("R", 0).holds("R", 1, 777);
            paged(1, V | R | A, word).put(Rig.MSTATUS, MXR).steps("R, MXR", 0).holds("R, MXR", 1, 777);
            paged(1, V | X | A, word).traps("X", 13, ADDRESS);
            paged(1, V | X | A, word).put(Rig.MSTATUS, MXR).steps("X, MXR", 0).holds("X, MXR", 1, 777);
            paged(1, V | R | X | A, word).steps("R and X", 0).holds("R and X", 1, 777);
            paged(3, V | X | A, word).put(Rig.MSTATUS, MPRV | 0x800 | MXR).steps("MPRV, MXR", 0).holds("MPRV", 1, 777);
        }
        paged(1, V | X | A, Asm.load(0, 1, 2, 0)).traps("byte of X", 13, ADDRESS);
    }

    private static void storesWant() {
        CHECK.sentence("a store W");
        int[] stores = {STORE, SC, SUM_OF_WORD};
        for (int word : stores) {
            paged(1, V | R | W | A | D, word).steps("W", 0);
            int[] without = {V | R | A | D, V | R | X | A | D, V | X | A | D};
            for (int bits : without) {
                paged(1, bits, word).put(Rig.MSTATUS, SUM | MXR).traps("without W", 15, ADDRESS)
                    .keeps("W", DATA + 2, 777);
            }
        }
        paged(1, V | R | W | A | D, STORE).steps("W", 0).keeps("W", DATA + 2, 55);
        paged(1, V | R | A | D, Asm.store(0, 3, 2, 1)).traps("byte without W", 15, ADDRESS + 1);
    }

    private static void accessedAndDirty() {
        CHECK.sentence("A is wanted, by stores D");
        allFault("without A", 1, MXR, ALL & ~A);
        allFaultInFirst("first without A", ALL & ~A);
        paged(1, ALL & ~D, LOAD).steps("load without D", 0).holds("load without D", 1, 777);
        paged(1, ALL & ~D, LR).steps("LR without D", 0).holds("LR without D", 1, 777);
        paged(1, ALL & ~D, STORE).traps("store without D", 15, ADDRESS).keeps("store without D", DATA + 2, 777);
        paged(1, ALL & ~D, SC).traps("SC without D", 15, ADDRESS);
        paged(1, ALL & ~D, SUM_OF_WORD).traps("sum without D", 15, ADDRESS);
        paged(1, ALL, STORE).poke(FIRST + 1, entry(0x80000, ALL & ~D)).traps("first without D", 15, ADDRESS);
        paged(1, ALL & ~D, Asm.jalr(0, 2, 0)).poke(DATA + 2, Asm.NOP).steps("JALR", 0)
            .steps("instruction without D", 0);
        Rig rig = paged(1, ALL, LOAD, STORE).steps("load", 0).steps("store", 0);
        rig.keeps("the entry stays as it is", SECOND + 3, entry(0x80003, ALL))
            .keeps("first", FIRST + 1, entry(0x80002, V));
    }

    private static void firstEntriesAreStraight() {
        CHECK.sentence("of a first entry bits 10 .. 19 must be 0: else page fault");
        for (int bit = 0; bit < 10; bit++) {
            allFaultInFirst("bit " + (10 + bit), 1 << 10 + bit | ALL);
        }
        paged(1, ALL, LOAD).poke(FIRST + 1, entry(0x80000, ALL)).steps("all are 0", 0).holds("all are 0", 1, 777);
        paged(1, ALL, LOAD).poke(FIRST + 1, entry(0x80400, ALL)).traps("bit 20 is another place", 5, ADDRESS);
        paged(1, ALL, LOAD).steps("of a second entry they may be what they are", 0).holds("second entry", 1, 777);
    }

    private static void places() {
        CHECK.sentence("The address: 4096 * (bits 10 .. 31) + rest");
        int[] rests = {0, 4, 2048, 4092};
        for (int page = 0; page < 4; page++) {
            for (int rest : rests) {
                int address = ADDRESS & -4096 | rest;
                int k = 1024 * page + rest / 4;
                Rig rig = paged(1, ALL, LOAD).poke(SECOND + 3, entry(0x80000 | page, ALL)).with(2, address);
                int want = rig.machine.peek(k);
                rig.steps("load", 0).holds("page " + page + ", rest " + rest, 1, want);
            }
        }
        paged(1, ALL, Asm.load(0, 1, 2, 0)).poke(4095, 0x7F << 24).with(2, ADDRESS | 0xFFF).steps("last byte", 0)
            .holds("last byte", 1, 0x7F);
        int page = ADDRESS & -4096;
        paged(1, ALL, LOAD).poke(SECOND + 3, entry(0x80004, ALL)).with(2, page).traps("page beyond RAM", 5, page);
        paged(1, ALL, STORE).poke(SECOND + 3, entry(0x7FFFF, ALL)).with(2, page | 0xFFC)
            .traps("page before RAM", 7, page | 0xFFC);
        paged(1, ALL, STORE).poke(SECOND + 3, entry(0x02004, ALL)).with(2, page).steps("mtimecmp", 0);
        paged(1, ALL, Asm.store(0, 3, 2, 0)).poke(SECOND + 3, entry(0x10000, ALL)).with(2, page).steps("console", 0)
            .printed("console", 1);
        paged(1, ALL, LOAD).poke(SECOND + 3, entry(0xFFFFF, ALL)).with(2, page | 0xFFC)
            .traps("the last", 5, page | 0xFFC);
    }

    private static void placesOfFirstEntries() {
        CHECK.sentence("of a first entry with the second number added to these bits");
        for (int second = 0; second < 4; second++) {
            int address = 1 << 22 | second << 12 | 8;
            Rig rig = paged(1, ALL, LOAD).poke(FIRST + 1, entry(0x80000, ALL)).poke(1024 * second + 2, 880 + second);
            rig.with(2, address).steps("load", 0).holds("second number " + second, 1, 880 + second);
        }
        int beyond = 1 << 22 | 4 << 12;
        paged(1, ALL, LOAD).poke(FIRST + 1, entry(0x80000, ALL)).with(2, beyond).traps("beyond RAM", 5, beyond);
        int last = 1 << 22 | 1023 << 12 | 0xFFC;
        paged(1, ALL, LOAD).poke(FIRST + 1, entry(0x80000, ALL)).with(2, last).traps("the last", 5, last);
        int msip = 1 << 22;
        paged(1, ALL, STORE, LOAD).poke(FIRST + 1, entry(0x02000, ALL)).with(2, msip).steps("msip", 0).steps("msip", 0)
            .holds("msip", 1, 1);
        int mtime = 1 << 22 | 0xB << 12 | 0xFF8;
        paged(1, ALL, STORE, LOAD).poke(FIRST + 1, entry(0x02000, ALL)).with(2, mtime).steps("mtime", 0)
            .steps("mtime", 0)
            .holds("mtime", 1, 55);
        int ram = 1 << 22 | 3 << 12 | 8;
        paged(1, ALL, LOAD).poke(FIRST + 1, entry(0xFFC00, ALL)).with(2, ram).traps("the last first entry", 5, ram);
    }

    private static void placesAbove() {
        CHECK.sentence("if that is above 32 bits, access fault");
        int[] pages = {0x100000, 0x180003, 0x280003, 0x380003, 0x3FFFFF, 0x102000, 0x110000, 0x102004};
        for (int page : pages) {
            int address = ADDRESS & -4096;
            String what = "page " + Integer.toHexString(page);
            above(what, LOAD, page, address, 5);
            above(what, STORE, page, address, 7);
            above(what, LR, page, address, 5);
            above(what, SC, page, address, 7);
            above(what, SUM_OF_WORD, page, address, 7);
            above(what, Asm.store(0, 3, 2, 0), page, address, 7);
            paged(1, ALL, Asm.jalr(0, 2, 0)).poke(SECOND + 3, entry(page, ALL)).with(2, address).steps("JALR", 0)
                .traps("instruction, " + what, 1, address);
        }
        int[] firsts = {0x100000, 0x180000, 0x280000, 0x380000, 0x3FFC00};
        for (int page : firsts) {
            paged(1, ALL, LOAD).poke(FIRST + 1, entry(page, ALL)).traps("first entry", 5, ADDRESS);
            paged(1, ALL, STORE).poke(FIRST + 1, entry(page, ALL)).traps("first entry", 7, ADDRESS)
                .keeps("first", 3074, 777);
            paged(1, ALL, Asm.NOP).poke(CODE_ENTRY, entry(page, ALL)).traps("first entry", 1, CODE);
        }
        paged(1, ALL, LOAD).poke(SECOND + 3, entry(0x180003, ALL & ~A)).traps("rights come before", 13, ADDRESS);
        paged(1, ALL, STORE).poke(SECOND + 3, entry(0x180003, ALL & ~D)).traps("rights come before", 15, ADDRESS);
    }

    private static void above(String what, int word, int page, int address, int cause) {
        paged(1, ALL, word).poke(SECOND + 3, entry(page, ALL)).with(1, 9).with(2, address).traps(what, cause, address)
            .holds(what, 1, 9).printed(what, 0).reads(what, Rig.MIP, 0).keeps(what, DATA, 0);
    }

    private static void changesAreStores() {
        CHECK.sentence("(SC and the others of 0x2F but LR are stores.)");
        for (int kind : CHANGES) {
            int word = Asm.atomic(kind, 1, 2, 3);
            paged(1, V | R | A, word).traps("bits " + kind, 15, ADDRESS).keeps("bits " + kind, DATA + 2, 777);
            paged(1, V | R | W | A, word).traps("bits " + kind, 15, ADDRESS);
            paged(1, V | R | W | A | D, word).steps("bits " + kind, 0);
        }
        paged(1, V | R | A, LR).steps("LR", 0).holds("LR", 1, 777);
        paged(1, 0, LR).traps("LR", 13, ADDRESS);
    }

    /** What the document's words say of one entry: whether a way to touch it is admitted, at U or S. */
    private static boolean admits(int bits, int level, int status, char way) {
        boolean r = (bits & R) != 0;
        boolean w = (bits & W) != 0;
        boolean x = (bits & X) != 0;
        boolean u = (bits & U) != 0;
        if ((bits & V) == 0 || w && !r || !r && !x) {
            return false;
        }
        boolean dataWithSum = way != 'i' && (status & SUM) != 0;
        boolean ofLevel = level == 0 ? u : !u || dataWithSum;
        boolean right = way == 'i' ? x : way == 's' ? w : r || x && (status & MXR) != 0;
        return ofLevel && right && (bits & A) != 0 && (way != 's' || (bits & D) != 0);
    }

    private static void allBits() {
        CHECK.sentence("Bits: V 1, R 2, W 4, X 8, U 16, A 64, D 128.");
        int[] statuses = {0, SUM, MXR, SUM | MXR};
        for (int bits = 0; bits < 256; bits++) {
            for (int level = 0; level < 2; level++) {
                for (int status : statuses) {
                    String what = "bits " + bits + ", level " + level + ", mstatus " + Integer.toHexString(status);
                    paged(level, bits, LOAD).put(Rig.MSTATUS, status)
                        .steps("load, " + what, admits(bits, level, status, 'l') ? 0 : 14);
                    paged(level, bits, STORE).put(Rig.MSTATUS, status)
                        .steps("store, " + what, admits(bits, level, status, 's') ? 0 : 16);
                    paged(level, bits, Asm.jalr(0, 2, 0)).put(Rig.MSTATUS, status).poke(DATA + 2, Asm.NOP)
                        .steps("JALR", 0).steps("instruction, " + what, admits(bits, level, status, 'i') ? 0 : 13);
                }
            }
        }
    }
}
