/** Promises 5, 7, 8, 9 and 12: registers, pc and level as they are asked for, and harts that are not there. */
public final class StateTest {
    private static final Check CHECK = new Check();
    private static final int[] NO_HART = {-1, 2, 3, Integer.MIN_VALUE, Integer.MAX_VALUE};

    public static void main(String[] args) {
        registersAreApart();
        registersThatAreNot();
        hartsThatAreNot();
        pcAndLevelAreApart();
        zeroStaysZero();
        CHECK.end();
    }

    private static void registersAreApart() {
        TwinHart machine = new TwinHart(64);
        for (int i = 1; i < 32; i++) {
            CHECK.due("set(0, " + i + ")", machine.set(0, i, 100 + i), true);
            CHECK.due("set(1, " + i + ")", machine.set(1, i, -i), true);
        }
        for (int i = 1; i < 32; i++) {
            CHECK.due("register(0, " + i + ")", machine.register(0, i), 100 + i);
            CHECK.due("register(1, " + i + ")", machine.register(1, i), -i);
        }
    }

    private static void registersThatAreNot() {
        TwinHart machine = new TwinHart(64);
        int[] none = {-1, 32, 33, Integer.MIN_VALUE, Integer.MAX_VALUE};
        for (int i : none) {
            CHECK.due("set(0, " + i + ", 5)", machine.set(0, i, 5), false);
            CHECK.due("register(0, " + i + ")", machine.register(0, i), 0);
        }
        CHECK.due("set(0, 0, 5)", machine.set(0, 0, 5), false);
        CHECK.due("set(1, 0, 5)", machine.set(1, 0, 5), false);
        CHECK.due("register(0, 0)", machine.register(0, 0), 0);
        CHECK.due("register(1, 0)", machine.register(1, 0), 0);
    }

    private static void hartsThatAreNot() {
        TwinHart machine = new TwinHart(64);
        machine.poke(0, Asm.opImmediate(0, 1, 1, 1));
        for (int hart : NO_HART) {
            CHECK.due("step(" + hart + ")", machine.step(hart), TwinHart.NONE);
            CHECK.due("register(" + hart + ", 1)", machine.register(hart, 1), 0);
            CHECK.due("set(" + hart + ", 1, 5)", machine.set(hart, 1, 5), false);
            CHECK.due("pc(" + hart + ")", machine.pc(hart), 0);
            CHECK.due("csr(" + hart + ", misa)", machine.csr(hart, 0x301), 0);
            CHECK.due("put(" + hart + ", mscratch, 5)", machine.put(hart, 0x340, 5), false);
            CHECK.due("level(" + hart + ")", machine.level(hart), TwinHart.NONE);
        }
        for (int hart = 0; hart < 2; hart++) {
            CHECK.due("register(" + hart + ", 1)", machine.register(hart, 1), 0);
            CHECK.due("pc(" + hart + ")", machine.pc(hart), 0x80000000);
            CHECK.due("mscratch", machine.csr(hart, 0x340), 0);
        }
    }

    private static void pcAndLevelAreApart() {
        TwinHart machine = new TwinHart(64);
        machine.poke(0, Asm.MRET);
        machine.put(1, 0x300, 0x800);
        machine.put(1, 0x341, 0x80000020);
        CHECK.due("step(1)", machine.step(1), 0);
        CHECK.due("level(1)", machine.level(1), 1);
        CHECK.due("pc(1)", machine.pc(1), 0x80000020);
        CHECK.due("level(0)", machine.level(0), 3);
        CHECK.due("pc(0)", machine.pc(0), 0x80000000);
        CHECK.due("step(0)", machine.step(0), 0);
        CHECK.due("level(0)", machine.level(0), 0);
        CHECK.due("pc(0)", machine.pc(0), 0);
    }

    private static void zeroStaysZero() {
        new Rig(CHECK, Asm.opImmediate(0, 0, 0, 5), Asm.lui(0, 0x12345000), Asm.load(2, 0, 2, 0), Asm.jal(0, 4),
            Asm.csr(1, 0, 1, 0x340), Asm.atomic(0, 0, 2, 1), Asm.op(0, 0, 1, 0, 0))
            .with(1, 77).with(2, Rig.RAM)
            .steps("addi x0", 0).holds("addi x0", 0, 0)
            .steps("lui x0", 0).holds("lui x0", 0, 0)
            .steps("lw x0", 0).holds("lw x0", 0, 0)
            .steps("jal x0", 0).holds("jal x0", 0, 0)
            .steps("csrrw x0", 0).holds("csrrw x0", 0, 0).reads("csrrw x0", 0x340, 77)
            .steps("amoadd x0", 0).holds("amoadd x0", 0, 0)
            .steps("add x1, x0, x0", 0).holds("add x1, x0, x0", 1, 0);
    }
}
