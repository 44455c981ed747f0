/** Terms, STEP and TRAPS: each sentence that names an edge, with a test of its own. */
public final class TrapEdgesTest extends Paged {
    private static final int NOWHERE = 0x40000000;
    private static final int WORD = Rig.RAM + 0x80;
    private static final int[] CHANGES = {3, 0, 1, 4, 8, 0xC, 0x10, 0x14, 0x18, 0x1C};
    private static final int[] LEVELS = {0, 1, 3};

    public static void main(String[] args) {
        interruptBeforeInstruction();
        crookedJumps();
        accessFaults();
        notThereOrNotAllowed();
        breaks();
        crookedAddresses();
        calls();
        pageFaults();
        orderOfLooks();
        nothingElse();
        CHECK.end();
    }

    private static Rig interrupted(Rig rig) {
        return rig.put(Rig.MIE, 2).put(Rig.MIP, 2).put(Rig.MSTATUS, 8);
    }

    private static void interruptBeforeInstruction() {
        CHECK.sentence("if an INTERRUPT is due it is taken; else one instruction is done, or traps");
        interrupted(new Rig(CHECK, Asm.addi(1, 0, 5))).steps("interrupt", 65).holds("interrupt", 1, 0)
            .reads("interrupt", Rig.MEPC, Rig.RAM).stands("interrupt", 3, Rig.HANDLER);
        interrupted(new Rig(CHECK, Asm.store(2, 3, 2, 0)).with(2, WORD).with(3, 5)).steps("store", 65)
            .keeps("store", 32, 0);
        interrupted(new Rig(CHECK, 0)).steps("what is not there", 65).reads("what is not there", Rig.MTVAL, 0);
        interrupted(new Rig(CHECK, Asm.jalr(0, 1, 0)).with(1, NOWHERE).steps("JALR", 0)).steps("pc beyond RAM", 65)
            .reads("pc beyond RAM", Rig.MEPC, NOWHERE);
        interrupted(paged(1, 0, Asm.jalr(0, 2, 0)).steps("JALR", 0)).steps("pc without a page", 65)
            .reads("pc without a page", Rig.MEPC, ADDRESS);
        new Rig(CHECK, Asm.addi(1, 1, 1), Asm.addi(1, 1, 1)).steps("one instruction", 0).holds("one instruction", 1, 1)
            .stands("one instruction", 3, Rig.RAM + 4).onHart(1).stands("the other", 3, Rig.RAM);
        new Rig(CHECK, 0).traps("trap", 2, 0);
        Rig rig = new Rig(CHECK, Asm.csr(5, 0, 8, Rig.MSTATUS), Asm.addi(1, 0, 5)).put(Rig.MIE, 2).put(Rig.MIP, 2);
        rig.steps("what makes it due is done", 0).steps("then it is taken", 65).holds("then it is taken", 1, 0)
            .reads("then it is taken", Rig.MEPC, Rig.RAM + 4);
        rig = new Rig(CHECK, Asm.MRET).put(Rig.MIE, 2).put(Rig.MIP, 2).put(Rig.MEPC, 64);
        rig.steps("MRET is done", 0).stands("MRET is done", 0, 64).steps("then it is taken", 65)
            .reads("then it is taken", Rig.MEPC, 64);
    }

    private static void crookedJumps() {
        CHECK.sentence("0 a jump or branch that is taken to a pc that is no multiple of 4 (that pc)");
        int[] offsets = {2, 6, -2, -6, 2046, -2046};
        for (int offset : offsets) {
            String what = "offset " + offset;
            new Rig(CHECK, Asm.jal(1, offset)).with(1, 9).traps("JAL, " + what, 0, Rig.RAM + offset).holds(what, 1, 9);
            new Rig(CHECK, Asm.jalr(1, 2, offset)).with(1, 9).with(2, WORD)
                .traps("JALR, " + what, 0, WORD + offset).holds(what, 1, 9);
            int[][] taken = {{0, 5, 5}, {1, 5, 6}, {4, -1, 0}, {5, 0, -1}, {6, 0, -1}, {7, -1, 0}};
            for (int[] row : taken) {
                new Rig(CHECK, Asm.branch(row[0], 2, 3, offset)).with(2, row[1]).with(3, row[2])
                    .traps("branch f3 " + row[0] + ", " + what, 0, Rig.RAM + offset);
                new Rig(CHECK, Asm.branch(row[0] ^ 1, 2, 3, offset)).with(2, row[1]).with(3, row[2])
                    .steps("branch not taken, " + what, 0).stands("branch not taken, " + what, 3, Rig.RAM + 4);
            }
        }
        new Rig(CHECK, Asm.jalr(1, 2, 3)).with(2, WORD).traps("JALR, lowest bits 3", 0, WORD + 2);
        new Rig(CHECK, Asm.jalr(1, 2, 1)).with(2, WORD).steps("JALR, lowest bits 1", 0)
            .stands("JALR, lowest bits 1", 3, WORD);
        new Rig(CHECK, Asm.jalr(1, 2, 3)).with(2, -1).traps("JALR, round", 0, 2);
        new Rig(CHECK, Asm.jal(1, 2)).put(Rig.MEDELEG, 1).at(0, Rig.RAM).trapsLower("JAL at U", 0, Rig.RAM + 2);
    }

    private static void accessFaults() {
        CHECK.sentence("1 access fault of an instruction, 5 of a load, 7 of a store (the address)");
        int end = Rig.RAM + 4 * 4096;
        int[] places = {0, 4, NOWHERE, Rig.RAM - 4, end, -4};
        for (int place : places) {
            for (int level : LEVELS) {
                String what = "0x" + Integer.toHexString(place) + " at level " + level;
                new Rig(CHECK, Asm.NOP).at(level, place).traps("instruction, " + what, 1, place);
                new Rig(CHECK, LOAD).at(level, Rig.RAM).with(2, place).traps("load, " + what, 5, place);
                new Rig(CHECK, STORE).at(level, Rig.RAM).with(2, place).traps("store, " + what, 7, place);
            }
        }
        new Rig(CHECK, Asm.load(0, 1, 2, 3)).with(2, end).traps("byte", 5, end + 3);
        new Rig(CHECK, Asm.store(0, 1, 2, 3)).with(2, end).traps("byte", 7, end + 3);
    }

    private static void notThereOrNotAllowed() {
        CHECK.sentence("2 an instruction that there is not, or that is not allowed (its word)");
        int[] words = {0, -1, 0x7F, 0xFFFF, Integer.MIN_VALUE, Asm.op(2, 0, 1, 2, 3), Asm.csr(4, 1, 2, 0x340)};
        for (int word : words) {
            for (int level : LEVELS) {
                new Rig(CHECK, word).at(level, Rig.RAM).traps("not there, level " + level, 2, word);
            }
        }
        new Rig(CHECK, Asm.MRET).at(1, Rig.RAM).traps("MRET at S", 2, Asm.MRET);
        new Rig(CHECK, Asm.SRET).at(0, Rig.RAM).traps("SRET at U", 2, Asm.SRET);
        int word = Asm.csr(1, 1, 2, 0xF14);
        new Rig(CHECK, word).with(1, 9).traps("mhartid", 2, word).holds("mhartid", 1, 9);
    }

    private static void breaks() {
        CHECK.sentence("3 EBREAK (pc)");
        for (int level : LEVELS) {
            new Rig(CHECK, Asm.NOP, Asm.NOP, Asm.EBREAK).at(level, Rig.RAM + 8)
                .traps("EBREAK at level " + level, 3, Rig.RAM + 8);
        }
        Rig rig = paged(1, ALL, Asm.jalr(0, 2, 0)).poke(DATA + 2, Asm.EBREAK);
        rig.steps("JALR", 0).traps("EBREAK behind pages", 3, ADDRESS);
    }

    private static void crookedAddresses() {
        CHECK.sentence("4, 6 a load, a store at an address that is no multiple of its size (the address)");
        int[] loads = {0, 1, 2, 4, 5};
        for (int low = 0; low < 8; low++) {
            for (int f3 : loads) {
                String what = "load f3 " + f3 + " at " + low;
                Rig rig = new Rig(CHECK, Asm.load(f3, 1, 2, low)).with(1, 9).with(2, WORD);
                if (low % (1 << (f3 & 3)) == 0) {
                    rig.steps(what, 0).holds(what, 1, 0);
                } else {
                    rig.traps(what, 4, WORD + low).holds(what, 1, 9);
                }
            }
            for (int f3 = 0; f3 < 3; f3++) {
                String what = "store f3 " + f3 + " at " + low;
                Rig rig = new Rig(CHECK, Asm.store(f3, 1, 2, low)).with(1, -1).with(2, WORD);
                if (low % (1 << f3) == 0) {
                    rig.steps(what, 0);
                } else {
                    rig.traps(what, 6, WORD + low).keeps(what, 32, 0).keeps(what, 33, 0).keeps(what, 34, 0);
                }
            }
        }
        new Rig(CHECK, Asm.load(2, 1, 2, 0)).with(2, -1).traps("the last address", 4, -1);
        new Rig(CHECK, Asm.store(1, 1, 2, 0)).with(2, -1).traps("the last address", 6, -1);
        new Rig(CHECK, Asm.load(1, 1, 2, 2)).with(2, -1).traps("round", 4, 1);
        for (int low = 1; low < 4; low++) {
            new Rig(CHECK, Asm.lr(1, 2)).with(2, WORD + low).traps("LR", 4, WORD + low);
            for (int kind : CHANGES) {
                new Rig(CHECK, Asm.atomic(kind, 1, 2, 3)).with(2, WORD + low).traps("kind " + kind, 6, WORD + low);
            }
        }
    }

    private static void calls() {
        CHECK.sentence("8, 9, 11 ECALL at U, S, M (0)");
        for (int level : LEVELS) {
            for (int hart = 0; hart < 2; hart++) {
                new Rig(CHECK, Asm.ECALL).onHart(hart).put(Rig.MTVAL, 5).at(level, Rig.RAM)
                    .traps("ECALL at level " + level, 8 + level, 0);
            }
        }
    }

    private static void pageFaults() {
        CHECK.sentence("12, 13, 15 page fault of an instruction, a load, a store (the address as it was asked for)");
        int[] addresses = {ADDRESS, ADDRESS & -4096, ADDRESS | 0xFFC};
        for (int address : addresses) {
            for (int level = 0; level < 2; level++) {
                paged(level, 0, Asm.jalr(0, 2, 0)).with(2, address).steps("JALR", 0).traps("instruction", 12, address);
                paged(level, 0, LOAD).with(2, address).traps("load", 13, address);
                paged(level, 0, STORE).with(2, address).traps("store", 15, address);
                paged(level, 0, Asm.lr(1, 2)).with(2, address).traps("LR", 13, address);
                for (int kind : CHANGES) {
                    paged(level, 0, Asm.atomic(kind, 1, 2, 3)).with(2, address).traps("kind " + kind, 15, address);
                }
            }
        }
        paged(1, 0, Asm.load(0, 1, 2, 3)).traps("byte", 13, ADDRESS + 3);
        paged(1, 0, Asm.store(1, 1, 2, 2)).traps("half", 15, ADDRESS + 2);
        paged(1, 0, LOAD).with(2, -4).traps("the last word", 13, -4);
        paged(1, 0, LOAD).with(2, 0).traps("the first word", 13, 0);
    }

    /** One page of data with bits, that leads to a page of places. */
    private static Rig leading(int bits, int page, int word) {
        return paged(1, bits, word).poke(SECOND + 3, entry(page, bits));
    }

    private static void orderOfLooks() {
        CHECK.sentence("A load or store looks first whether its address is a multiple, then at the pages, "
            + "then at what is there.");
        int nothing = 0x40000;
        for (int low = 1; low < 4; low++) {
            int at = ADDRESS + low;
            leading(0, nothing, LOAD).with(2, at).traps("crooked, no page, nothing there", 4, at);
            leading(0, nothing, STORE).with(2, at).traps("crooked, no page, nothing there", 6, at);
            leading(ALL, nothing, LOAD).with(2, at).traps("crooked, nothing there", 4, at);
            leading(ALL, nothing, STORE).with(2, at).traps("crooked, nothing there", 6, at);
            leading(0, nothing, Asm.lr(1, 2)).with(2, at).traps("crooked LR", 4, at);
            leading(0, nothing, Asm.sc(1, 2, 3)).with(2, at).traps("crooked SC", 6, at);
            leading(0, nothing, Asm.atomic(0, 1, 2, 3)).with(2, at).traps("crooked sum", 6, at);
            paged(1, ALL, LOAD).poke(FIRST + 1, entry(nothing, V)).with(2, at).traps("crooked, no entry", 4, at);
            new Rig(CHECK, LOAD).with(2, NOWHERE + low).traps("crooked, nothing there", 4, NOWHERE + low);
            new Rig(CHECK, STORE).with(2, NOWHERE + low).traps("crooked, nothing there", 6, NOWHERE + low);
            new Rig(CHECK, STORE).with(2, Console.PLACE + low).traps("crooked console", 6, Console.PLACE + low);
            new Rig(CHECK, LOAD).with(2, 0x02000000 + low).traps("crooked msip", 4, 0x02000000 + low);
        }
        leading(0, nothing, LOAD).traps("no page, nothing there", 13, ADDRESS);
        leading(0, nothing, STORE).traps("no page, nothing there", 15, ADDRESS);
        leading(V | R | A, nothing, STORE).traps("no right, nothing there", 15, ADDRESS);
        leading(0, nothing, Asm.lr(1, 2)).traps("LR, no page", 13, ADDRESS);
        leading(0, nothing, Asm.sc(1, 2, 3)).traps("SC, no page", 15, ADDRESS);
        leading(ALL, nothing, LOAD).traps("nothing there", 5, ADDRESS);
        leading(ALL, nothing, STORE).traps("nothing there", 7, ADDRESS);
        leading(ALL, nothing, Asm.lr(1, 2)).traps("LR, nothing there", 5, ADDRESS);
        leading(ALL, nothing, Asm.sc(1, 2, 3)).traps("SC, nothing there", 7, ADDRESS);
        leading(ALL, 0x10000, Asm.load(0, 1, 2, 0)).traps("load of the console", 5, ADDRESS);
    }

    private static void nothingElse() {
        CHECK.sentence("What traps changes nothing else.");
        int[] words = {Asm.jal(1, 2), Asm.jalr(1, 2, 2), Asm.load(2, 1, 2, 1), Asm.load(2, 1, 4, 0),
            Asm.load(0, 1, 5, 0),
            Asm.store(2, 3, 2, 1), Asm.store(2, 3, 4, 0), Asm.store(2, 3, 5, 0), Asm.store(0, 3, 6, 0), Asm.lr(1, 4),
            Asm.sc(1, 4, 3), Asm.atomic(0, 1, 5, 3), Asm.atomic(1, 1, 6, 3), Asm.csr(1, 1, 3, 0xF14),
            Asm.csr(2, 1, 3, 0x345), Asm.csr(4, 1, 3, 0x340), Asm.ECALL, Asm.EBREAK, 0, -1, Asm.op(2, 0, 1, 2, 3)};
        for (int level : LEVELS) {
            for (int word : words) {
                changesNothingElse(word, level, 0);
                if (level < 3) {
                    changesNothingElse(word, level, -1);
                }
            }
        }
        new Rig(CHECK, Asm.csr(1, 1, 3, 0x340)).with(3, 5).put(0x340, 8).at(1, Rig.RAM).steps("CSR not allowed", 3)
            .reads("CSR not allowed", 0x340, 8).holds("CSR not allowed", 1, 0);
        new Rig(CHECK, Asm.MRET).at(1, Rig.RAM).put(Rig.MSTATUS, 0x80).steps("MRET not allowed", 3)
            .stands("MRET not allowed", 3, Rig.HANDLER).reads("MRET not allowed", Rig.MSTATUS, 0x800);
    }

    private static void changesNothingElse(int word, int level, int medeleg) {
        String what = "word " + Integer.toHexString(word) + " at " + level;
        Rig rig = new Rig(CHECK, word).with(1, 9).with(2, WORD).with(3, 5).with(4, NOWHERE).with(5, Console.PLACE)
            .with(6, 0x02000000).at(level, Rig.RAM).poke(32, 44).poke(33, 45).put(Rig.MEDELEG, medeleg)
            .put(Rig.MSCRATCH, 3).put(Rig.SSCRATCH, 4).put(Rig.MIE, 0xAA2).put(Rig.MIP, 0);
        int[] m = {Rig.MEPC, Rig.MCAUSE, Rig.MTVAL};
        int[] s = {Rig.SEPC, Rig.SCAUSE, Rig.STVAL};
        for (int i = 0; i < 3; i++) {
            rig.put(m[i], 400 + 4 * i).put(s[i], 800 + 4 * i);
        }
        CHECK.due(what + " traps", rig.machine.step(0) > 0, true);
        int[] kept = medeleg == 0 ? s : m;
        for (int i = 0; i < 3; i++) {
            rig.reads(what, kept[i], (medeleg == 0 ? 800 : 400) + 4 * i);
        }
        rig.holds(what, 1, 9).holds(what, 2, WORD).holds(what, 3, 5).holds(what, 4, NOWHERE).keeps(what, 32, 44)
            .keeps(what, 33, 45).keeps(what, 0, word).printed(what, 0).reads(what, Rig.MSCRATCH, 3)
            .reads(what, Rig.SSCRATCH, 4).reads(what, Rig.MIE, 0xAA2).reads(what, Rig.MIP, 0)
            .reads(what, Rig.MTVEC, Rig.HANDLER).reads(what, Rig.STVEC, Rig.LOWER_HANDLER).reads(what, Rig.SATP, 0);
        rig.onHart(1).stands(what, 3, Rig.RAM).reads(what, Rig.MCAUSE, 0).reads(what, Rig.MIP, 0).holds(what, 1, 0);
    }
}
