/** Promise 5: the instructions that compute. */
public final class ArithmeticTest {
    private static final Check CHECK = new Check();
    private static final int LEAST = Integer.MIN_VALUE;
    private static final int GREATEST = Integer.MAX_VALUE;

    public static void main(String[] args) {
        upperWords();
        withImmediate();
        shiftsByImmediate();
        withRegister();
        times();
        divided();
        rest();
        nothing();
        notThere();
        CHECK.end();
    }

    private static void upperWords() {
        new Rig(CHECK, Asm.lui(1, 0xFFFFF000), Asm.lui(31, 0x12345000), Asm.auipc(2, 0x1000), Asm.auipc(3, 0x80000000))
            .steps("lui", 0).holds("lui", 1, 0xFFFFF000)
            .steps("lui", 0).holds("lui", 31, 0x12345000)
            .steps("auipc", 0).holds("auipc", 2, 0x80001008)
            .steps("auipc", 0).holds("auipc", 3, 12).stands("auipc", 3, Rig.RAM + 16);
    }

    private static void immediate(int f3, int a, int b, int want) {
        String what = "0x13, f3 " + f3 + ", " + a + ", " + b;
        new Rig(CHECK, Asm.opImmediate(f3, 3, 4, b)).with(3, 1234).with(4, a)
            .steps(what, 0).holds(what, 3, want).holds(what, 4, a).stands(what, 3, Rig.RAM + 4);
    }

    private static void withImmediate() {
        immediate(0, 5, -6, -1);
        immediate(0, GREATEST, 1, LEAST);
        immediate(0, 1, 2047, 2048);
        immediate(0, 1, -2048, -2047);
        immediate(2, -1, 0, 1);
        immediate(2, 0, -1, 0);
        immediate(2, 3, 3, 0);
        immediate(2, LEAST, 2047, 1);
        immediate(3, -1, 0, 0);
        immediate(3, 0, -1, 1);
        immediate(3, -2, -1, 1);
        immediate(3, -1, -1, 0);
        immediate(4, 0x0F0F0F0F, -1, 0xF0F0F0F0);
        immediate(4, 6, 3, 5);
        immediate(6, 6, 3, 7);
        immediate(6, 0x10000, -2048, -2048 | 0x10000);
        immediate(7, 6, 3, 2);
        immediate(7, 0x12345678, -256, 0x12345600);
    }

    private static void shiftsByImmediate() {
        immediate(1, 1, 31, LEAST);
        immediate(1, 0x12345678, 4, 0x23456780);
        immediate(1, 7, 0, 7);
        immediate(5, -1, 31, 1);
        immediate(5, LEAST, 4, 0x08000000);
        immediate(5, LEAST, 0x400 | 4, 0xF8000000);
        immediate(5, 0x40000000, 0x400 | 30, 1);
        immediate(5, -8, 0x400, -8);
        int[] wrong = {Asm.opImmediate(1, 3, 4, 0x400 | 4), Asm.opImmediate(1, 3, 4, 0x20),
            Asm.opImmediate(5, 3, 4, 0x20),
            Asm.opImmediate(5, 3, 4, 0x420), Asm.opImmediate(5, 3, 4, 0x800)};
        for (int word : wrong) {
            new Rig(CHECK, word).with(3, 9).traps("shift", 2, word).holds("shift", 3, 9);
        }
    }

    private static void register(int f7, int f3, int a, int b, int want) {
        String what = "0x33, f7 " + f7 + ", f3 " + f3 + ", " + a + ", " + b;
        new Rig(CHECK, Asm.op(f7, f3, 3, 4, 5)).with(3, 1234).with(4, a).with(5, b)
            .steps(what, 0).holds(what, 3, want).holds(what, 4, a).holds(what, 5, b).stands(what, 3, Rig.RAM + 4);
    }

    private static void withRegister() {
        register(0, 0, GREATEST, 1, LEAST);
        register(0x20, 0, LEAST, 1, GREATEST);
        register(0x20, 0, 3, 5, -2);
        register(0, 1, 1, 31, LEAST);
        register(0, 1, 3, 33, 6);
        register(0, 1, 3, 32, 3);
        register(0, 2, -1, 1, 1);
        register(0, 2, 1, -1, 0);
        register(0, 2, 4, 4, 0);
        register(0, 3, -1, 1, 0);
        register(0, 3, 1, -1, 1);
        register(0, 3, 4, 4, 0);
        register(0, 4, 6, 3, 5);
        register(0, 5, -1, 31, 1);
        register(0, 5, -16, 34, 0x3FFFFFFC);
        register(0x20, 5, -16, 34, -4);
        register(0x20, 5, LEAST, 31, -1);
        register(0, 6, 6, 3, 7);
        register(0, 7, 6, 3, 2);
    }

    private static void times() {
        register(1, 0, -3, 5, -15);
        register(1, 0, 0x10001, 0x10001, 0x20001);
        register(1, 1, -1, -1, 0);
        register(1, 1, LEAST, LEAST, 0x40000000);
        register(1, 1, -1, 1, -1);
        register(1, 2, -1, -1, -1);
        register(1, 2, 1, -1, 0);
        register(1, 2, LEAST, -1, LEAST);
        register(1, 2, 2, -1, 1);
        register(1, 3, -1, -1, -2);
        register(1, 3, LEAST, 2, 1);
        register(1, 3, -1, 1, 0);
    }

    private static void divided() {
        register(1, 4, -7, 2, -3);
        register(1, 4, 7, -2, -3);
        register(1, 4, 7, 0, -1);
        register(1, 4, -7, 0, -1);
        register(1, 4, LEAST, -1, LEAST);
        register(1, 5, -7, 2, 0x7FFFFFFC);
        register(1, 5, 7, 0, -1);
        register(1, 5, LEAST, -1, 0);
        register(1, 5, -1, LEAST, 1);
    }

    private static void rest() {
        register(1, 6, -7, 2, -1);
        register(1, 6, 7, -2, 1);
        register(1, 6, -7, 0, -7);
        register(1, 6, LEAST, -1, 0);
        register(1, 7, -7, 2, 1);
        register(1, 7, -7, 0, -7);
        register(1, 7, LEAST, -1, LEAST);
        register(1, 7, -1, 10, 5);
    }

    private static void nothing() {
        int[] words = {0x0000000F, 0x0FF0000F, 0x0000100F, 0xFFFFF00F, 0xFFFFFF8F, Asm.WFI};
        for (int word : words) {
            Rig rig = new Rig(CHECK, word).with(31, 8).steps("nothing", 0).stands("nothing", 3, Rig.RAM + 4);
            rig.holds("nothing", 31, 8);
        }
    }

    private static void notThere() {
        for (int f3 = 0; f3 < 8; f3++) {
            refused(Asm.op(2, f3, 3, 4, 5));
            refused(Asm.op(0x21, f3, 3, 4, 5));
            refused(Asm.op(0x40, f3, 3, 4, 5));
            if (f3 != 0 && f3 != 5) {
                refused(Asm.op(0x20, f3, 3, 4, 5));
            }
        }
        for (int op = 0; op < 128; op++) {
            if (!isKnown(op)) {
                refused(0x00002180 | op);
            }
        }
        refused(0);
        refused(-1);
    }

    private static boolean isKnown(int op) {
        int[] known = {0x37, 0x17, 0x6F, 0x67, 0x63, 0x03, 0x23, 0x13, 0x33, 0x0F, 0x2F, 0x73};
        for (int k : known) {
            if (k == op) {
                return true;
            }
        }
        return false;
    }

    private static void refused(int word) {
        new Rig(CHECK, word).with(3, 9).traps("not there", 2, word).holds("not there", 3, 9);
    }
}
