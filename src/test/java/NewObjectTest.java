/** Promise 1: the words of a new object, and both harts as at the beginning. */
public final class NewObjectTest {
    private static final Check CHECK = new Check();

    public static void main(String[] args) {
        holdsWords(16, 16);
        holdsWords(15, 16);
        holdsWords(0, 16);
        holdsWords(-1, 16);
        holdsWords(Integer.MIN_VALUE, 16);
        holdsWords(17, 17);
        holdsWords(4095, 4095);
        holdsWords(4096, 4096);
        holdsWords(4097, 4096);
        holdsWords(Integer.MAX_VALUE, 4096);
        allIsZero();
        begins();
        CHECK.end();
    }

    private static void holdsWords(int asked, int got) {
        TwinHart machine = new TwinHart(asked);
        String what = "new TwinHart(" + asked + ")";
        CHECK.due(what + ": last word", machine.poke(got - 1, 7), true);
        CHECK.due(what + ": last word", machine.peek(got - 1), 7);
        CHECK.due(what + ": beyond", machine.poke(got, 7), false);
    }

    private static void allIsZero() {
        TwinHart machine = new TwinHart(64);
        for (int k = 0; k < 64; k++) {
            CHECK.due("peek(" + k + ")", machine.peek(k), 0);
        }
        for (int i = 0; i < 32; i++) {
            CHECK.due("register(0, " + i + ")", machine.register(0, i), 0);
            CHECK.due("register(1, " + i + ")", machine.register(1, i), 0);
        }
        CHECK.due("size()", machine.size(), 0);
    }

    private static void begins() {
        TwinHart machine = new TwinHart(64);
        int[] zeros = {0x300, 0x302, 0x303, 0x304, 0x305, 0x340, 0x341, 0x342, 0x343, 0x344, 0xF11, 0xF12, 0xF13,
            0x100, 0x104, 0x105, 0x140, 0x141, 0x142, 0x143, 0x144, 0x180};
        for (int hart = 0; hart < 2; hart++) {
            for (int number : zeros) {
                CHECK.due("csr(" + hart + ", " + number + ")", machine.csr(hart, number), 0);
            }
            CHECK.due("misa", machine.csr(hart, 0x301), 0x40141101);
            CHECK.due("mhartid", machine.csr(hart, 0xF14), hart);
            CHECK.due("level(" + hart + ")", machine.level(hart), 3);
            CHECK.due("pc(" + hart + ")", machine.pc(hart), 0x80000000);
        }
        clockBegins();
    }

    private static void clockBegins() {
        int[] places = {0x02000000, 0x02000004, 0x02004000, 0x02004004, 0x02004008, 0x0200400C, 0x0200BFF8, 0x0200BFFC};
        int[] wants = {0, 0, -1, -1, -1, -1, 0, 0};
        for (int i = 0; i < places.length; i++) {
            new Rig(CHECK, Asm.load(2, 1, 2, 0)).with(1, 99).with(2, places[i])
                .steps("clock", 0).holds("clock " + Integer.toHexString(places[i]), 1, wants[i]);
        }
    }
}
