/** Promises 13 and 14: the bytes that were put out, and the console's address. */
public final class OutTest {
    private static final Check CHECK = new Check();
    private static final int CONSOLE = 0x10000000;

    public static void main(String[] args) {
        bytesAreKept();
        bytesBeyondAreLost();
        consoleTakesStoredBytesAlone();
        CHECK.end();
    }

    private static void bytesAreKept() {
        Rig rig = new Rig(CHECK, Asm.store(0, 1, 2, 0), Asm.store(0, 3, 2, 0), Asm.store(0, 4, 5, -1));
        rig.with(1, 0x12345641).with(2, CONSOLE).with(3, 0xFF).with(4, 0x80).with(5, CONSOLE + 1);
        CHECK.due("size()", rig.machine.size(), 0);
        CHECK.due("out(0)", rig.machine.out(0), TwinHart.NONE);
        rig.steps("sb", 0).steps("sb", 0);
        rig.machine.set(1, 1, 7);
        rig.machine.set(1, 2, CONSOLE);
        rig.stepsOther("sb", 0).steps("sb", 0);
        CHECK.due("size()", rig.machine.size(), 4);
        CHECK.due("out(0)", rig.machine.out(0), 0x41);
        CHECK.due("out(1)", rig.machine.out(1), 0xFF);
        CHECK.due("out(2)", rig.machine.out(2), 7);
        CHECK.due("out(3)", rig.machine.out(3), 0x80);
        int[] none = {-1, 4, 255, 256, Integer.MIN_VALUE, Integer.MAX_VALUE};
        for (int i : none) {
            CHECK.due("out(" + i + ")", rig.machine.out(i), TwinHart.NONE);
        }
    }

    private static void bytesBeyondAreLost() {
        int[] program = new int[32];
        for (int k = 0; k < 31; k++) {
            program[k] = Asm.store(0, 1, 2, 0);
        }
        program[31] = Asm.jal(1, -124);
        Rig rig = new Rig(CHECK, program).with(1, 9).with(2, CONSOLE);
        for (int n = 0; n < 8 * 32 + 8; n++) {
            rig.machine.step(0);
        }
        CHECK.due("size()", rig.machine.size(), 256);
        rig.machine.set(0, 1, 200);
        rig.steps("sb beyond 256", 0);
        CHECK.due("size()", rig.machine.size(), 256);
        CHECK.due("out(0)", rig.machine.out(0), 9);
        CHECK.due("out(30)", rig.machine.out(30), 9);
        CHECK.due("out(31)", rig.machine.out(31), 0x80);
        CHECK.due("out(255)", rig.machine.out(255), 0x80);
        CHECK.due("out(256)", rig.machine.out(256), TwinHart.NONE);
    }

    private static void consoleTakesStoredBytesAlone() {
        for (int f3 = 1; f3 <= 2; f3++) {
            Rig rig = new Rig(CHECK, Asm.store(f3, 1, 2, 0)).with(2, CONSOLE).traps("wide store", 7, CONSOLE);
            CHECK.due("size()", rig.machine.size(), 0);
        }
        int[] loads = {0, 1, 2, 4, 5};
        for (int f3 : loads) {
            new Rig(CHECK, Asm.load(f3, 1, 2, 0)).with(1, 3).with(2, CONSOLE)
                .traps("load", 5, CONSOLE).holds("load", 1, 3);
        }
        new Rig(CHECK, Asm.store(0, 1, 2, 1)).with(2, CONSOLE).traps("sb beside", 7, CONSOLE + 1);
        new Rig(CHECK, Asm.store(0, 1, 2, -1)).with(2, CONSOLE).traps("sb beside", 7, CONSOLE - 1);
        Rig rig = new Rig(CHECK, Asm.atomic(1, 1, 2, 3)).with(2, CONSOLE).traps("amoswap", 7, CONSOLE);
        CHECK.due("size()", rig.machine.size(), 0);
    }
}
