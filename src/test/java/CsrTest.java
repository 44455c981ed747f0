/** Promises 5, 10 and 11: CSR as they are read and written, from outside and by instructions. */
public final class CsrTest {
    private static final Check CHECK = new Check();
    private static final int[] TOLD = {0x300, 0x301, 0x302, 0x303, 0x304, 0x305, 0x340, 0x341, 0x342, 0x343, 0x344,
        0xF11, 0xF12, 0xF13, 0xF14, 0x100, 0x104, 0x105, 0x140, 0x141, 0x142, 0x143, 0x144, 0x180};

    public static void main(String[] args) {
        bitsThatAreKept();
        levelTwoIsNot();
        viewsOfSupervisor();
        apart();
        numbersThatAreNot();
        readOnly();
        instructions();
        whenNotWritten();
        rights();
        notAllowed();
        CHECK.end();
    }

    private static void bits(int number, int written, int want) {
        TwinHart machine = new TwinHart(64);
        String what = "put(0, 0x" + Integer.toHexString(number) + ", " + written + ")";
        CHECK.due(what, machine.put(0, number, written), true);
        CHECK.due(what + " is read", machine.csr(0, number), want);
    }

    private static void bitsThatAreKept() {
        bits(0x300, -1, 0xE19AA);
        bits(0x301, -1, 0x40141101);
        bits(0x301, 0, 0x40141101);
        bits(0x302, -1, 0xB3FF);
        bits(0x303, -1, 0x222);
        bits(0x304, -1, 0xAAA);
        bits(0x344, -1, 0x222);
        int[] places = {0x305, 0x341, 0x105, 0x141};
        for (int number : places) {
            bits(number, -1, -4);
            bits(number, 0x12345677, 0x12345674);
        }
        int[] whole = {0x340, 0x342, 0x343, 0x140, 0x142, 0x143};
        for (int number : whole) {
            bits(number, -1, -1);
            bits(number, 0x87654321, 0x87654321);
        }
        bits(0x180, -1, 0x803FFFFF);
        bits(0x180, 0x7FC00000, 0);
        bits(0x100, -1, 0xC0122);
        bits(0x104, -1, 0);
        bits(0x144, -1, 0);
    }

    private static void levelTwoIsNot() {
        bits(0x300, 0x1000, 0);
        bits(0x300, 0x1800, 0x1800);
        bits(0x300, 0x0800, 0x0800);
        bits(0x300, 0x100A, 0xA);
        new Rig(CHECK, Asm.csr(3, 0, 1, 0x300)).with(1, 0x800).put(0x300, 0x1808)
            .steps("csrrc", 0).reads("csrrc leaves 2", 0x300, 8);
        new Rig(CHECK, Asm.csr(2, 0, 1, 0x300)).with(1, 0x1000).put(0x300, 0x800)
            .steps("csrrs", 0).reads("csrrs makes 3", 0x300, 0x1800);
    }

    private static void viewsOfSupervisor() {
        new Rig(CHECK).put(0x300, 0xE19AA).reads("sstatus", 0x100, 0xC0122)
            .put(0x100, 0).reads("mstatus", 0x300, 0x21888).put(0x100, -1).reads("mstatus", 0x300, 0xE19AA);
        new Rig(CHECK).put(0x304, 0xAAA).reads("sie", 0x104, 0).put(0x303, 0x22).reads("sie", 0x104, 0x22)
            .put(0x104, 0).reads("mie", 0x304, 0xA88).reads("sie", 0x104, 0)
            .put(0x104, -1).reads("mie", 0x304, 0xAAA).reads("sie", 0x104, 0x22);
        new Rig(CHECK).put(0x344, 0x222).reads("sip", 0x144, 0).put(0x303, 0x22).reads("sip", 0x144, 0x22)
            .put(0x144, 0).reads("mip", 0x344, 0x220).reads("sip", 0x144, 0x20)
            .put(0x144, -1).reads("mip", 0x344, 0x222).put(0x344, 0).put(0x144, -1).reads("mip", 0x344, 2);
        new Rig(CHECK).put(0x303, 0x220).put(0x144, -1).reads("mip", 0x344, 0)
            .put(0x344, 2).put(0x144, 0).reads("mip", 0x344, 2);
    }

    private static void apart() {
        TwinHart machine = new TwinHart(64);
        int[] own = {0x340, 0x341, 0x342, 0x343, 0x305, 0x140, 0x141, 0x142, 0x143, 0x105};
        for (int i = 0; i < own.length; i++) {
            machine.put(0, own[i], 4 * i + 100);
            machine.put(1, own[i], 4 * i + 1000);
        }
        for (int i = 0; i < own.length; i++) {
            CHECK.due("csr(0, " + own[i] + ")", machine.csr(0, own[i]), 4 * i + 100);
            CHECK.due("csr(1, " + own[i] + ")", machine.csr(1, own[i]), 4 * i + 1000);
        }
        machine.put(1, 0x180, -1);
        machine.put(1, 0x302, -1);
        machine.put(1, 0x303, -1);
        machine.put(1, 0x304, -1);
        machine.put(1, 0x344, -1);
        machine.put(1, 0x300, -1);
        int[] shared = {0x180, 0x302, 0x303, 0x304, 0x344, 0x300};
        for (int number : shared) {
            CHECK.due("csr(0, " + number + ")", machine.csr(0, number), 0);
        }
        CHECK.due("mhartid", machine.csr(0, 0xF14), 0);
        CHECK.due("mhartid", machine.csr(1, 0xF14), 1);
    }

    private static boolean isTold(int number) {
        for (int told : TOLD) {
            if (told == number) {
                return true;
            }
        }
        return false;
    }

    private static void numbersThatAreNot() {
        for (int from = 0; from < 4096; from += 128) {
            TwinHart machine = new TwinHart(64);
            for (int number = from; number < from + 128; number++) {
                boolean written = isTold(number) && (number & 0xC00) != 0xC00;
                CHECK.due("put(0, " + number + ", 0)", machine.put(0, number, 0), written);
                if (!isTold(number)) {
                    CHECK.due("csr(0, " + number + ")", machine.csr(0, number), 0);
                }
            }
        }
        int[] far = {-1, 4096 + 0x340, Integer.MIN_VALUE, Integer.MIN_VALUE + 0x301, Integer.MAX_VALUE, 0x10301,
            -0x301};
        for (int number : far) {
            TwinHart machine = new TwinHart(64);
            CHECK.due("put(0, " + number + ", 5)", machine.put(0, number, 5), false);
            CHECK.due("csr(0, " + number + ")", machine.csr(0, number), 0);
            CHECK.due("mscratch", machine.csr(0, 0x340), 0);
        }
    }

    private static void readOnly() {
        for (int number = 0xF11; number <= 0xF14; number++) {
            TwinHart machine = new TwinHart(64);
            CHECK.due("put(1, " + number + ", 9)", machine.put(1, number, 9), false);
            CHECK.due("csr(1, " + number + ")", machine.csr(1, number), number == 0xF14 ? 1 : 0);
        }
    }

    private static void exchange(int f3, int old, int a, int want) {
        String what = "f3 " + f3 + ", " + old + ", " + a;
        new Rig(CHECK, Asm.csr(f3, 1, 2, 0x340)).with(1, 99).with(2, a).put(0x340, old)
            .steps(what, 0).holds(what, 1, old).reads(what, 0x340, want).stands(what, 3, Rig.RAM + 4);
    }

    private static void exchangeField(int f3, int old, int field, int want) {
        String what = "f3 " + f3 + ", " + old + ", field " + field;
        new Rig(CHECK, Asm.csr(f3, 1, field, 0x340)).with(field, -1).put(0x340, old)
            .steps(what, 0).holds(what, 1, old).reads(what, 0x340, want);
    }

    private static void instructions() {
        exchange(1, 6, 3, 3);
        exchange(2, 6, 3, 7);
        exchange(3, 6, 3, 4);
        exchange(3, -1, 0x80000001, 0x7FFFFFFE);
        exchangeField(5, 6, 31, 31);
        exchangeField(6, 6, 17, 23);
        exchangeField(7, -1, 31, -32);
        new Rig(CHECK, Asm.csr(1, 1, 1, 0x340)).with(1, 5).put(0x340, 8)
            .steps("rd is rs1", 0).holds("rd is rs1", 1, 8).reads("rd is rs1", 0x340, 5);
        new Rig(CHECK, Asm.csr(2, 1, 0, 0xF14), Asm.csr(2, 1, 0, 0x301)).with(1, 5)
            .steps("mhartid", 0).holds("mhartid", 1, 0).steps("misa", 0).holds("misa", 1, 0x40141101);
        new Rig(CHECK, Asm.csr(1, 1, 2, 0x301)).with(2, 5)
            .steps("misa", 0).holds("misa", 1, 0x40141101).reads("misa", 0x301, 0x40141101);
        new Rig(CHECK, Asm.csr(1, 1, 2, 0x341)).with(2, 7).put(0x341, 12)
            .steps("mepc", 0).holds("mepc", 1, 12).reads("mepc", 0x341, 4);
        new Rig(CHECK, Asm.csr(1, 1, 0, 0x340)).put(0x340, 12).steps("f3 1, x0", 0).reads("f3 1, x0", 0x340, 0);
        new Rig(CHECK, Asm.csr(5, 1, 0, 0x340)).put(0x340, 12).steps("f3 5, 0", 0).reads("f3 5, 0", 0x340, 0);
        new Rig(CHECK, Asm.csr(2, 1, 2, 0x144)).with(2, 2).put(0x303, 0x22).put(0x344, 0x20)
            .steps("sip", 0).holds("sip", 1, 0x20).reads("sip", 0x344, 0x22);
    }

    private static void whenNotWritten() {
        int[] ways = {2, 3, 6, 7};
        for (int f3 : ways) {
            for (int number = 0xF11; number <= 0xF14; number++) {
                Rig rig = new Rig(CHECK, Asm.csr(f3, 1, 0, number)).with(1, 9);
                rig.steps("read alone", 0).holds("read alone", 1, 0);
                int word = Asm.csr(f3, 1, 2, number);
                new Rig(CHECK, word).with(1, 9).traps("written with 0", 2, word).holds("written with 0", 1, 9);
            }
            new Rig(CHECK, Asm.csr(f3, 1, 0, 0x340)).put(0x340, 5)
                .steps("read alone", 0).holds("read alone", 1, 5).reads("read alone", 0x340, 5);
        }
        for (int f3 = 1; f3 < 6; f3 += 4) {
            int word = Asm.csr(f3, 1, 0, 0xF14);
            new Rig(CHECK, word).with(1, 9).traps("always written", 2, word).holds("always written", 1, 9);
        }
    }

    private static void rights() {
        int[] levels = {0, 1, 3};
        for (int number : TOLD) {
            int word = Asm.csr(2, 1, 0, number);
            for (int level : levels) {
                Rig rig = new Rig(CHECK, word).at(level, Rig.RAM);
                String what = "number " + Integer.toHexString(number) + " at level " + level;
                if (level >= (number >> 8 & 3)) {
                    rig.steps(what, 0).stands(what, level, Rig.RAM + 4);
                } else {
                    rig.traps(what, 2, word);
                }
            }
        }
        new Rig(CHECK, Asm.csr(1, 1, 2, 0x140)).with(2, 6).at(1, Rig.RAM).steps("at S", 0).reads("at S", 0x140, 6);
        int word = Asm.csr(1, 1, 2, 0x340);
        new Rig(CHECK, word).with(2, 6).at(1, Rig.RAM).traps("at S", 2, word).reads("at S", 0x340, 0);
    }

    private static void notAllowed() {
        int[] numbers = {0, 1, 0x101, 0x106, 0x181, 0x306, 0x320, 0x345, 0x200, 0xB00, 0xC00, 0xC01, 0xF10, 0xF15,
            0xFFF, 0x744};
        for (int number : numbers) {
            for (int f3 = 1; f3 < 8; f3++) {
                int word = Asm.csr(f3, 1, 0, number);
                new Rig(CHECK, word).with(1, 9).traps("not told", 2, word).holds("not told", 1, 9);
            }
        }
    }
}
