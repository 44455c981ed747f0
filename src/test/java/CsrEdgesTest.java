/** Terms, CSR: each sentence that names an edge, with a test of its own. */
public final class CsrEdgesTest {
    private static final Check CHECK = new Check();
    private static final int MPP = 0x1800;

    public static void main(String[] args) {
        statusBits();
        levelBefore();
        handedDown();
        enabled();
        places();
        wholeWords();
        pending();
        clockWithoutSigns();
        readOnly();
        statusOfSupervisor();
        viewsOfSupervisor();
        placesOfSupervisor();
        satp();
        misa();
        beginning();
        CHECK.end();
    }

    /** Each bit by itself, all of them, and none: from outside and by an instruction, on each hart. */
    private static void keeps(int number, int mask) {
        for (int hart = 0; hart < 2; hart++) {
            Rig rig = new Rig(CHECK).onHart(hart);
            String what = "0x" + Integer.toHexString(number);
            for (int bit = 0; bit < 32; bit++) {
                rig.put(number, 1 << bit).reads(what + ", bit " + bit, number, 1 << bit & mask);
            }
            rig.put(number, -1).reads(what + ", all", number, mask).put(number, 0).reads(what + ", none", number, 0);
            new Rig(CHECK, Asm.csr(1, 3, 2, number), Asm.csr(2, 4, 0, number), Asm.csr(1, 3, 0, number)).onHart(hart)
                .with(2, -1).put(number, 0).steps(what, 0).holds(what, 3, 0).steps(what, 0).holds(what, 4, mask)
                .steps(what, 0).holds(what, 3, mask).reads(what, number, 0);
            new Rig(CHECK).onHart(hart).put(number, -1).onHart(1 - hart).put(number, 0).reads("of the other", number, 0)
                .onHart(hart).reads(what, number, mask);
        }
    }

    private static void statusBits() {
        CHECK.sentence("MPRV 0x20000, SUM 0x40000, MXR 0x80000; other bits are 0");
        int mask = 0xE19AA;
        TwinHart machine = new TwinHart(16);
        for (int bit = 0; bit < 32; bit++) {
            if (bit != 12) {
                machine.put(0, Rig.MSTATUS, 1 << bit);
                CHECK.due("bit " + bit, machine.csr(0, Rig.MSTATUS), 1 << bit & mask);
            }
        }
        machine.put(0, Rig.MSTATUS, -1);
        CHECK.due("all", machine.csr(0, Rig.MSTATUS), mask);
        machine.put(0, Rig.MSTATUS, ~mask);
        CHECK.due("all others", machine.csr(0, Rig.MSTATUS), 0);
        new Rig(CHECK, Asm.csr(2, 1, 2, Rig.MSTATUS)).with(2, -1).steps("csrrs", 0).reads("csrrs", Rig.MSTATUS, mask);
    }

    private static void levelBefore() {
        CHECK.sentence("MPP 0x1800 (a written 2 there becomes 0)");
        int[][] rows = {{0, 0}, {0x800, 0x800}, {0x1000, 0}, {0x1800, 0x1800}, {0x1000 | 0xA, 0xA},
            {-1 & ~0x800, 0xE01AA}, {-1, 0xE19AA}};
        for (int[] row : rows) {
            String what = "written " + Integer.toHexString(row[0]);
            new Rig(CHECK).put(Rig.MSTATUS, MPP).put(Rig.MSTATUS, row[0]).reads(what, Rig.MSTATUS, row[1]);
            new Rig(CHECK, Asm.csr(1, 0, 1, Rig.MSTATUS)).with(1, row[0]).put(Rig.MSTATUS, MPP)
                .steps(what, 0).reads(what, Rig.MSTATUS, row[1]);
        }
        new Rig(CHECK, Asm.csr(2, 0, 1, Rig.MSTATUS)).with(1, 0x1000).steps("0 or 2", 0)
            .reads("0 or 2", Rig.MSTATUS, 0);
        new Rig(CHECK, Asm.csr(2, 0, 1, Rig.MSTATUS)).with(1, 0x1000).put(Rig.MSTATUS, 0x800)
            .steps("1 or 2", 0).reads("1 or 2", Rig.MSTATUS, 0x1800);
        new Rig(CHECK, Asm.csr(3, 0, 1, Rig.MSTATUS)).with(1, 0x800).put(Rig.MSTATUS, 0x1800)
            .steps("3 without 1", 0).reads("3 without 1", Rig.MSTATUS, 0);
        new Rig(CHECK, Asm.csr(3, 0, 1, Rig.MSTATUS)).with(1, 0x1000).put(Rig.MSTATUS, 0x1800)
            .steps("3 without 2", 0).reads("3 without 2", Rig.MSTATUS, 0x800);
    }

    private static void handedDown() {
        CHECK.sentence("0x302 medeleg (of 0xB3FF)");
        keeps(Rig.MEDELEG, 0xB3FF);
        CHECK.sentence("0x303 mideleg (of 0x222)");
        keeps(Rig.MIDELEG, 0x222);
    }

    private static void enabled() {
        CHECK.sentence("0x304 mie (of 0xAAA)");
        keeps(Rig.MIE, 0xAAA);
    }

    private static void places() {
        CHECK.sentence("0x305 mtvec, 0x341 mepc (their lowest two bits are 0)");
        keeps(Rig.MTVEC, -4);
        keeps(Rig.MEPC, -4);
    }

    private static void wholeWords() {
        CHECK.sentence("0x340 mscratch, 0x342 mcause, 0x343 mtval");
        keeps(Rig.MSCRATCH, -1);
        keeps(Rig.MCAUSE, -1);
        keeps(Rig.MTVAL, -1);
        CHECK.sentence("0x140 sscratch, 0x142 scause, 0x143 stval");
        keeps(Rig.SSCRATCH, -1);
        keeps(Rig.SCAUSE, -1);
        keeps(Rig.STVAL, -1);
    }

    /** Hart 0 has stored msip and mtimecmp of a hart: bits 3 and 7 of its mip. */
    private static Rig lines(int hart) {
        Rig rig = new Rig(CHECK, Asm.store(2, 1, 2, 0), Asm.store(2, 0, 3, 0), Asm.store(2, 0, 3, 4));
        rig.with(1, 1).with(2, 0x02000000 + 4 * hart).with(3, 0x02004000 + 8 * hart);
        return rig.steps("msip", 0).steps("mtimecmp", 0).steps("mtimecmp", 0);
    }

    private static void pending() {
        CHECK.sentence("0x344 mip: bits 1, 5, 9 as written, 3 msip");
        keeps(Rig.MIP, 0x222);
        for (int hart = 0; hart < 2; hart++) {
            Rig rig = lines(hart).onHart(hart).reads("lines", Rig.MIP, 0x88);
            rig.put(Rig.MIP, 0).reads("put of 0", Rig.MIP, 0x88).put(Rig.MIP, -1).reads("put of all", Rig.MIP, 0x2AA);
            rig.onHart(1 - hart).reads("of the other", Rig.MIP, 0);
        }
        Rig rig = lines(0).poke(3, Asm.csr(3, 1, 4, Rig.MIP)).poke(4, Asm.csr(2, 1, 4, Rig.MIP)).with(4, -1)
            .put(Rig.MIP, 0x222);
        rig.steps("without all", 0).holds("without all", 1, 0x2AA).reads("without all", Rig.MIP, 0x88);
        rig.steps("or all", 0).holds("or all", 1, 0x88).reads("or all", Rig.MIP, 0x2AA);
        rig = new Rig(CHECK, Asm.store(2, 1, 2, 0), Asm.store(2, 0, 2, 0)).with(1, 1).with(2, 0x02000000);
        rig.steps("msip", 0).reads("msip", Rig.MIP, 8).steps("msip is 0", 0).reads("msip is 0", Rig.MIP, 0);
    }

    private static void compares(int timeHigh, int timeLow, int cmpHigh, int cmpLow, boolean below) {
        for (int hart = 0; hart < 2; hart++) {
            String what = "mtime " + timeHigh + " " + timeLow + ", mtimecmp " + cmpHigh + " " + cmpLow;
            Rig rig = new Rig(CHECK, Asm.store(2, 1, 5, 0), Asm.store(2, 2, 5, 4), Asm.store(2, 3, 6, 0),
                Asm.store(2, 4, 6, 4)).with(1, timeLow).with(2, timeHigh).with(3, cmpLow).with(4, cmpHigh)
                .with(5, 0x0200BFF8).with(6, 0x02004000 + 8 * hart);
            rig.steps(what, 0).steps(what, 0).steps(what, 0).steps(what, 0);
            rig.onHart(hart).reads(what, Rig.MIP, below ? 0 : 0x80);
        }
    }

    private static void clockWithoutSigns() {
        CHECK.sentence("7 whether mtime is not below mtimecmp (without signs)");
        int least = Integer.MIN_VALUE;
        int greatest = Integer.MAX_VALUE;
        compares(0, 0, 0, 0, false);
        compares(0, 0, 0, 1, true);
        compares(0, 1, 0, 0, false);
        compares(0, 5, 0, 5, false);
        compares(0, 4, 0, 5, true);
        compares(0, 6, 0, 5, false);
        compares(0, greatest, 0, least, true);
        compares(0, least, 0, greatest, false);
        compares(greatest, -1, least, 0, true);
        compares(least, 0, greatest, -1, false);
        compares(0, -1, 1, 0, true);
        compares(1, 0, 0, -1, false);
        compares(-1, -1, -1, -1, false);
        compares(-1, -2, -1, -1, true);
        compares(-1, -1, 0, 0, false);
        compares(0, 0, -1, -1, true);
        Rig rig = new Rig(CHECK, Asm.store(2, 1, 2, 0), Asm.store(2, 0, 2, 4)).with(1, 2).with(2, 0x02004000);
        rig.steps("mtimecmp", 0).steps("mtimecmp", 0).reads("mtime 0", Rig.MIP, 0);
        rig.machine.tick();
        rig.reads("mtime 1", Rig.MIP, 0);
        rig.machine.tick();
        rig.reads("mtime 2", Rig.MIP, 0x80);
        rig.machine.tick();
        rig.reads("mtime 3", Rig.MIP, 0x80);
    }

    private static void readOnly() {
        CHECK.sentence("0xF11 to 0xF13: 0, 0xF14 mhartid");
        for (int hart = 0; hart < 2; hart++) {
            for (int number = 0xF11; number <= 0xF14; number++) {
                int want = number == 0xF14 ? hart : 0;
                new Rig(CHECK, Asm.csr(2, 1, 0, number)).onHart(hart).with(1, 9).put(number, -1)
                    .reads("from outside", number, want).steps("read", 0).holds("read", 1, want);
            }
            int[] beside = {0xF10, 0xF15};
            for (int number : beside) {
                int word = Asm.csr(2, 1, 0, number);
                new Rig(CHECK, word).onHart(hart).with(1, 9).traps("beside", 2, word).holds("beside", 1, 9);
            }
        }
    }

    private static void statusOfSupervisor() {
        CHECK.sentence("0x100 sstatus: of mstatus SIE, SPIE, SPP, SUM, MXR");
        keeps(Rig.SSTATUS, 0xC0122);
        new Rig(CHECK).put(Rig.MSTATUS, -1).reads("read", Rig.SSTATUS, 0xC0122)
            .put(Rig.SSTATUS, 0).reads("others stay", Rig.MSTATUS, 0x21888).reads("0", Rig.SSTATUS, 0);
        new Rig(CHECK).put(Rig.SSTATUS, -1).reads("others stay", Rig.MSTATUS, 0xC0122);
        new Rig(CHECK).put(Rig.MSTATUS, 0x21888).reads("none of these", Rig.SSTATUS, 0);
        for (int bit = 0; bit < 32; bit++) {
            int want = 1 << bit & 0xC0122;
            new Rig(CHECK).put(Rig.MSTATUS, 1 << bit).reads("bit " + bit, Rig.SSTATUS, want);
            new Rig(CHECK).put(Rig.SSTATUS, 1 << bit).reads("bit " + bit, Rig.MSTATUS, want);
        }
        new Rig(CHECK, Asm.csr(1, 1, 2, Rig.SSTATUS)).with(2, 0).at(1, Rig.RAM).put(Rig.MSTATUS, -1)
            .steps("written at S", 0).holds("written at S", 1, 0xC0122).reads("written at S", Rig.MSTATUS, 0x21888);
    }

    private static void viewsOfSupervisor() {
        CHECK.sentence("0x104 sie, 0x144 sip: of mie, mip the bits of mideleg "
            + "(these alone are written, of sip bit 1 of them alone)");
        int[] parts = {0, 0x2, 0x20, 0x200, 0x22, 0x202, 0x220, 0x222};
        for (int mideleg : parts) {
            String what = "mideleg " + Integer.toHexString(mideleg);
            new Rig(CHECK).put(Rig.MIDELEG, mideleg).put(Rig.MIE, -1).reads(what, Rig.SIE, mideleg)
                .put(Rig.SIE, 0).reads(what, Rig.MIE, 0xAAA & ~mideleg).reads(what, Rig.SIE, 0);
            new Rig(CHECK).put(Rig.MIDELEG, mideleg).put(Rig.SIE, -1).reads(what, Rig.MIE, mideleg);
            new Rig(CHECK).put(Rig.MIDELEG, mideleg).put(Rig.MIP, -1).reads(what, Rig.SIP, mideleg)
                .put(Rig.SIP, 0).reads(what, Rig.MIP, 0x222 & ~(mideleg & 2));
            new Rig(CHECK).put(Rig.MIDELEG, mideleg).put(Rig.SIP, -1).reads(what, Rig.MIP, mideleg & 2)
                .reads(what, Rig.SIP, mideleg & 2);
            lines(0).put(Rig.MIDELEG, mideleg).put(Rig.MIP, -1).reads("3 and 7 are not of it", Rig.SIP, mideleg);
        }
        new Rig(CHECK, Asm.csr(3, 1, 2, Rig.SIP), Asm.csr(2, 1, 2, Rig.SIP)).with(2, -1).at(1, Rig.RAM)
            .put(Rig.MIDELEG, 0x222).put(Rig.MIP, 0x222).steps("sip at S", 0).holds("sip at S", 1, 0x222)
            .reads("sip at S", Rig.MIP, 0x220).put(Rig.MIP, 0).steps("sip at S", 0).holds("sip at S", 1, 0)
            .reads("sip at S", Rig.MIP, 2);
        new Rig(CHECK, Asm.csr(1, 1, 0, Rig.SIE)).at(1, Rig.RAM).put(Rig.MIDELEG, 0x20).put(Rig.MIE, -1)
            .steps("sie at S", 0).holds("sie at S", 1, 0x20).reads("sie at S", Rig.MIE, 0xA8A);
    }

    private static void placesOfSupervisor() {
        CHECK.sentence("0x105 stvec, 0x141 sepc (lowest two bits 0)");
        keeps(Rig.STVEC, -4);
        keeps(Rig.SEPC, -4);
    }

    private static void satp() {
        CHECK.sentence("0x180 satp: bit 31 and the lowest 22");
        keeps(Rig.SATP, 0x803FFFFF);
    }

    private static void misa() {
        CHECK.sentence("(misa is written without effect.)");
        int[] written = {0, -1, 5};
        for (int v : written) {
            Rig rig = new Rig(CHECK, Asm.csr(1, 1, 2, 0x301), Asm.csr(2, 3, 2, 0x301), Asm.csr(3, 4, 2, 0x301))
                .with(2, v);
            CHECK.due("put(misa)", rig.machine.put(0, 0x301, v), true);
            rig.reads("put", 0x301, 0x40141101).steps("written", 0).holds("written", 1, 0x40141101);
            rig.steps("written", 0).holds("written", 3, 0x40141101).steps("written", 0).holds("written", 4, 0x40141101);
            rig.reads("written", 0x301, 0x40141101);
        }
    }

    private static void beginning() {
        CHECK.sentence("At the beginning all are 0 but misa, mhartid; MPP too; the level is M, pc 0x80000000; "
            + "mtimecmp all ones, mtime, msip 0.");
        TwinHart machine = new TwinHart(64);
        Beginning.ofHarts(CHECK, "new", machine);
        Beginning.ofClock(CHECK, "new", machine);
        new Rig(CHECK, Asm.MRET).steps("MRET at once", 0).stands("MPP was 0", 0, 0);
        new Rig(CHECK, Asm.SRET).steps("SRET at once", 0).stands("SPP was 0", 0, 0);
    }
}
