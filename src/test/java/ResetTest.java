/** Promise 2: reset. */
public final class ResetTest {
    private static final Check CHECK = new Check();
    private static final int[] WRITTEN = {0x300, 0x302, 0x303, 0x304, 0x305, 0x340, 0x341, 0x342, 0x343, 0x344,
        0x100, 0x104, 0x105, 0x140, 0x141, 0x142, 0x143, 0x144, 0x180};

    public static void main(String[] args) {
        hartsBeginAgain();
        clockBeginsAgain();
        ramAndBytesStay();
        claimsAreGone();
        CHECK.end();
    }

    private static void hartsBeginAgain() {
        TwinHart machine = new TwinHart(64);
        machine.poke(0, Asm.MRET);
        for (int hart = 0; hart < 2; hart++) {
            machine.step(hart);
            CHECK.due("level before", machine.level(hart), 0);
            for (int number : WRITTEN) {
                machine.put(hart, number, -1);
            }
            for (int i = 1; i < 32; i++) {
                machine.set(hart, i, i);
            }
        }
        machine.reset();
        for (int hart = 0; hart < 2; hart++) {
            for (int number : WRITTEN) {
                CHECK.due("csr(" + hart + ", " + number + ")", machine.csr(hart, number), 0);
            }
            for (int i = 0; i < 32; i++) {
                CHECK.due("register(" + hart + ", " + i + ")", machine.register(hart, i), 0);
            }
            CHECK.due("mhartid", machine.csr(hart, 0xF14), hart);
            CHECK.due("misa", machine.csr(hart, 0x301), 0x40141101);
            CHECK.due("pc", machine.pc(hart), 0x80000000);
            CHECK.due("level", machine.level(hart), 3);
        }
    }

    private static void clockBeginsAgain() {
        int[] places = {0x02000000, 0x02000004, 0x02004000, 0x02004004, 0x02004008, 0x0200400C, 0x0200BFF8, 0x0200BFFC};
        int[] wants = {0, 0, -1, -1, -1, -1, 0, 0};
        for (int i = 0; i < places.length; i++) {
            TwinHart machine = new TwinHart(64);
            machine.poke(0, Asm.store(2, 1, 2, 0));
            machine.set(0, 1, 5);
            machine.set(0, 2, places[i]);
            machine.step(0);
            machine.reset();
            machine.poke(0, Asm.load(2, 1, 2, 0));
            machine.set(0, 2, places[i]);
            CHECK.due("load after reset", machine.step(0), 0);
            CHECK.due("place " + Integer.toHexString(places[i]), machine.register(0, 1), wants[i]);
        }
        TwinHart machine = new TwinHart(64);
        machine.tick();
        machine.reset();
        machine.poke(0, Asm.load(2, 1, 2, 0));
        machine.set(0, 2, 0x0200BFF8);
        machine.step(0);
        CHECK.due("mtime after tick and reset", machine.register(0, 1), 0);
    }

    private static void ramAndBytesStay() {
        TwinHart machine = new TwinHart(64);
        machine.poke(0, Asm.store(0, 1, 2, 0));
        machine.poke(63, 77);
        machine.set(0, 1, 65);
        machine.set(0, 2, 0x10000000);
        machine.step(0);
        machine.reset();
        CHECK.due("peek(63)", machine.peek(63), 77);
        CHECK.due("peek(0)", machine.peek(0), Asm.store(0, 1, 2, 0));
        CHECK.due("size()", machine.size(), 1);
        CHECK.due("out(0)", machine.out(0), 65);
    }

    private static void claimsAreGone() {
        for (int hart = 0; hart < 2; hart++) {
            TwinHart machine = new TwinHart(64);
            machine.poke(0, Asm.atomic(2, 1, 2, 0));
            machine.set(hart, 2, 0x80000080);
            machine.step(hart);
            machine.reset();
            machine.poke(0, Asm.atomic(3, 1, 2, 3));
            machine.set(hart, 2, 0x80000080);
            CHECK.due("SC after reset", machine.step(hart), 0);
            CHECK.due("SC after reset fails", machine.register(hart, 1), 1);
        }
    }
}
