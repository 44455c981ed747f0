/** Promises 3 and 4: poke and peek. */
public final class RamTest {
    private static final Check CHECK = new Check();

    public static void main(String[] args) {
        wordsAreKept();
        wordsThatAreNot();
        claimsStay();
        CHECK.end();
    }

    private static void wordsAreKept() {
        TwinHart machine = new TwinHart(20);
        CHECK.due("poke(0, -5)", machine.poke(0, -5), true);
        CHECK.due("poke(19, 7)", machine.poke(19, 7), true);
        CHECK.due("peek(0)", machine.peek(0), -5);
        CHECK.due("peek(19)", machine.peek(19), 7);
        CHECK.due("peek(1)", machine.peek(1), 0);
        machine.poke(0, 0x12345678);
        CHECK.due("peek(0)", machine.peek(0), 0x12345678);
    }

    private static void wordsThatAreNot() {
        TwinHart machine = new TwinHart(20);
        int[] none = {-1, 20, 21, Integer.MIN_VALUE, Integer.MAX_VALUE, 0x80000000 >> 2, 1 << 30};
        for (int k : none) {
            CHECK.due("poke(" + k + ", 9)", machine.poke(k, 9), false);
            CHECK.due("peek(" + k + ")", machine.peek(k), 0);
        }
        for (int k = 0; k < 20; k++) {
            CHECK.due("peek(" + k + ")", machine.peek(k), 0);
        }
    }

    private static void claimsStay() {
        Rig rig = new Rig(CHECK, Asm.atomic(2, 1, 2, 0), Asm.atomic(3, 1, 2, 3));
        rig.with(2, Rig.RAM + 0x80).with(3, 5).steps("LR", 0);
        rig.machine.poke(32, 44);
        rig.steps("SC after poke", 0).holds("SC after poke", 1, 0).keeps("SC after poke", 32, 5);
    }
}
