/** Promise 5: loads and stores in RAM and CLINT, and where they trap. */
public final class LoadStoreTest {
    private static final Check CHECK = new Check();
    private static final int DATA = Rig.RAM + 0x80;
    private static final int[] CLOCK = {0x02000000, 0x02000004, 0x02004000, 0x02004004, 0x02004008, 0x0200400C,
        0x0200BFF8, 0x0200BFFC};

    public static void main(String[] args) {
        loads();
        stores();
        crooked();
        edgesOfRam();
        clockByWords();
        clockByLess();
        nothingThere();
        notThere();
        CHECK.end();
    }

    private static void load(int f3, int offset, int want) {
        String what = "load f3 " + f3 + " at " + offset;
        Rig rig = new Rig(CHECK, Asm.load(f3, 1, 2, offset)).with(2, DATA);
        rig.machine.poke(31, 0x01020304);
        rig.machine.poke(32, 0x80F17FFE);
        rig.steps(what, 0).holds(what, 1, want).stands(what, 3, Rig.RAM + 4);
    }

    private static void loads() {
        load(0, 0, -2);
        load(0, 1, 0x7F);
        load(0, 2, 0xFFFFFFF1);
        load(0, 3, 0xFFFFFF80);
        load(4, 0, 0xFE);
        load(4, 3, 0x80);
        load(1, 0, 0x7FFE);
        load(1, 2, 0xFFFF80F1);
        load(5, 0, 0x7FFE);
        load(5, 2, 0x80F1);
        load(2, 0, 0x80F17FFE);
        load(2, -4, 0x01020304);
        load(0, -1, 1);
    }

    private static void store(int f3, int offset, int want) {
        String what = "store f3 " + f3 + " at " + offset;
        Rig rig = new Rig(CHECK, Asm.store(f3, 1, 2, offset)).with(1, 0xA1B2C3D4).with(2, DATA);
        rig.machine.poke(31, 0x11223344);
        rig.machine.poke(32, 0x55667788);
        rig.machine.poke(33, 0x99AABBCC);
        rig.steps(what, 0).keeps(what, 32, want).stands(what, 3, Rig.RAM + 4);
        rig.keeps(what, 31, 0x11223344).keeps(what, 33, 0x99AABBCC);
    }

    private static void stores() {
        store(0, 0, 0x556677D4);
        store(0, 1, 0x5566D488);
        store(0, 2, 0x55D47788);
        store(0, 3, 0xD4667788);
        store(1, 0, 0x5566C3D4);
        store(1, 2, 0xC3D47788);
        store(2, 0, 0xA1B2C3D4);
        int[] offsets = {-2048, -4, 2044, 0x7E0, 0x1C};
        for (int offset : offsets) {
            new Rig(CHECK, Asm.store(2, 1, 2, offset)).with(1, 7).with(2, Rig.RAM + 0x1000)
                .steps("sw", 0).keeps("sw at " + offset, 1024 + offset / 4, 7);
        }
    }

    private static void crooked() {
        int[] loads = {1, 2, 5};
        for (int f3 : loads) {
            for (int offset = 1; offset < 4; offset++) {
                if (f3 == 2 || offset != 2) {
                    new Rig(CHECK, Asm.load(f3, 1, 2, offset)).with(1, 9).with(2, DATA)
                        .traps("load", 4, DATA + offset).holds("load", 1, 9);
                    new Rig(CHECK, Asm.store(f3 & 3, 1, 2, offset)).with(1, 9).with(2, DATA)
                        .traps("store", 6, DATA + offset).keeps("store", 32, 0).keeps("store", 33, 0);
                }
            }
        }
        new Rig(CHECK, Asm.load(2, 1, 2, 1)).with(2, 0x30000000).traps("crooked and nothing there", 4, 0x30000001);
        new Rig(CHECK, Asm.store(2, 1, 2, 1)).with(2, 0x30000000).traps("crooked and nothing there", 6, 0x30000001);
    }

    private static void edgesOfRam() {
        int end = Rig.RAM + 4 * 64;
        Rig rig = Rig.ofWords(CHECK, 64, Asm.store(0, 1, 2, 3), Asm.load(4, 3, 2, 3)).with(1, 5).with(2, end - 4);
        rig.steps("last byte", 0).keeps("last byte", 63, 5 << 24).steps("last byte", 0).holds("last byte", 3, 5);
        for (int f3 = 0; f3 < 3; f3++) {
            Rig.ofWords(CHECK, 64, Asm.store(f3, 1, 2, 0)).with(2, end).traps("store beyond", 7, end);
            Rig.ofWords(CHECK, 64, Asm.load(f3, 1, 2, 0)).with(2, end).traps("load beyond", 5, end);
        }
        Rig.ofWords(CHECK, 64, Asm.load(0, 1, 2, -1)).with(2, Rig.RAM).traps("load before", 5, Rig.RAM - 1);
        Rig.ofWords(CHECK, 64, Asm.store(0, 1, 2, -1)).with(2, Rig.RAM).traps("store before", 7, Rig.RAM - 1);
        Rig.ofWords(CHECK, 64, Asm.load(0, 1, 2, 1)).with(2, -1).traps("round to 0", 5, 0);
    }

    private static void clockByWords() {
        for (int place : CLOCK) {
            Rig rig = new Rig(CHECK, Asm.store(2, 1, 2, 0), Asm.load(2, 3, 2, 0)).with(1, 0xFEDCBA99).with(2, place);
            String what = "clock " + Integer.toHexString(place);
            int want = place <= 0x02000004 ? 1 : 0xFEDCBA99;
            rig.steps(what, 0).steps(what, 0).holds(what, 3, want);
            for (int other : CLOCK) {
                rig.machine.reset();
                rig.with(1, 0xFEDCBA99).with(2, place).steps(what, 0);
                rig.with(2, other).steps(what, 0);
                int start = (other & 0xFFF0) == 0x4000 ? -1 : 0;
                rig.holds(what + " and " + Integer.toHexString(other), 3, other == place ? want : start);
            }
        }
        new Rig(CHECK, Asm.store(2, 1, 2, 0), Asm.load(2, 3, 2, 0)).with(1, -2).with(2, 0x02000000)
            .steps("msip", 0).steps("msip", 0).holds("msip, bit 0 alone", 3, 0);
    }

    private static void clockByLess() {
        for (int place : CLOCK) {
            for (int f3 = 0; f3 < 2; f3++) {
                new Rig(CHECK, Asm.load(f3, 1, 2, 0)).with(2, place).traps("load of less", 5, place);
                new Rig(CHECK, Asm.load(f3 | 4, 1, 2, 0)).with(2, place).traps("load of less", 5, place);
                new Rig(CHECK, Asm.store(f3, 1, 2, 0)).with(2, place).traps("store of less", 7, place);
            }
            new Rig(CHECK, Asm.load(2, 1, 2, 2)).with(2, place).traps("crooked", 4, place + 2);
        }
    }

    private static void nothingThere() {
        int[] places = {0, -4, 0x01FFFFFC, 0x02000008, 0x02003FFC, 0x02004010, 0x0200BFF4, 0x0200C000, 0x0FFFFFFC,
            0x10000004, 0x7FFFFFFC, 0x82000000, 0x42000000};
        for (int place : places) {
            new Rig(CHECK, Asm.load(2, 1, 2, 0)).with(1, 6).with(2, place)
                .traps("load", 5, place).holds("load", 1, 6);
            new Rig(CHECK, Asm.store(2, 1, 2, 0)).with(2, place).traps("store", 7, place);
        }
    }

    private static void notThere() {
        int[] loads = {3, 6, 7};
        for (int f3 : loads) {
            int word = Asm.load(f3, 1, 2, 1);
            new Rig(CHECK, word).with(1, 6).with(2, DATA).traps("load f3 " + f3, 2, word).holds("load", 1, 6);
        }
        for (int f3 = 3; f3 < 8; f3++) {
            int word = Asm.store(f3, 1, 2, 1);
            new Rig(CHECK, word).with(1, 6).with(2, DATA).traps("store f3 " + f3, 2, word).keeps("store", 32, 0);
        }
    }
}
