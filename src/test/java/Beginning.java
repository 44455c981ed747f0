/** The state at the beginning, as a new object and a reset must show it. */
final class Beginning {
    static final int[] ZEROS = {0x300, 0x302, 0x303, 0x304, 0x305, 0x340, 0x341, 0x342, 0x343, 0x344, 0xF11, 0xF12,
        0xF13, 0x100, 0x104, 0x105, 0x140, 0x141, 0x142, 0x143, 0x144, 0x180};
    private static final int[] CLOCK = {0x02000000, 0x02000004, 0x02004000, 0x02004004, 0x02004008, 0x0200400C,
        0x0200BFF8, 0x0200BFFC};
    private static final int[] CLOCK_WORDS = {0, 0, -1, -1, -1, -1, 0, 0};

    private Beginning() {
    }

    static void ofHarts(Check check, String what, TwinHart machine) {
        for (int hart = 0; hart < 2; hart++) {
            for (int i = 0; i < 32; i++) {
                check.due(what + ": register(" + hart + ", " + i + ")", machine.register(hart, i), 0);
            }
            for (int number : ZEROS) {
                String call = ": csr(" + hart + ", 0x" + Integer.toHexString(number) + ")";
                check.due(what + call, machine.csr(hart, number), 0);
            }
            check.due(what + ": misa", machine.csr(hart, 0x301), 0x40141101);
            check.due(what + ": mhartid", machine.csr(hart, 0xF14), hart);
            check.due(what + ": level(" + hart + ")", machine.level(hart), 3);
            check.due(what + ": pc(" + hart + ")", machine.pc(hart), 0x80000000);
        }
    }

    /** Hart 0, at its beginning, loads the words of the clock and of msip. */
    static void ofClock(Check check, String what, TwinHart machine) {
        for (int i = 0; i < CLOCK.length; i++) {
            machine.poke(i, Asm.load(2, 1, 2, 0));
            machine.set(0, 1, 99);
            machine.set(0, 2, CLOCK[i]);
            check.due(what + ": load of the clock", machine.step(0), 0);
            check.due(what + ": 0x" + Integer.toHexString(CLOCK[i]), machine.register(0, 1), CLOCK_WORDS[i]);
        }
    }
}
