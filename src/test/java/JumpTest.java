/** Promise 5: jumps and branches. */
public final class JumpTest {
    private static final Check CHECK = new Check();

    public static void main(String[] args) {
        jumps();
        jumpsByRegister();
        branches();
        offsets();
        crookedTargets();
        beyondRam();
        notThere();
        CHECK.end();
    }

    private static void jumps() {
        int[] offsets = {8, -4, 0, 0x7FFFC, -0x80000, 0x800, 0x1000, 0xFF000, -0x100000, 0xFFFFC, 0x554, 0xAA8};
        for (int offset : offsets) {
            String what = "jal " + offset;
            new Rig(CHECK, Asm.jal(5, offset)).steps(what, 0)
                .holds(what, 5, Rig.RAM + 4).stands(what, 3, Rig.RAM + offset);
        }
    }

    private static void jumpsByRegister() {
        new Rig(CHECK, Asm.jalr(5, 6, -4)).with(6, Rig.RAM + 0x40).steps("jalr", 0)
            .holds("jalr", 5, Rig.RAM + 4).stands("jalr", 3, Rig.RAM + 0x3C);
        new Rig(CHECK, Asm.jalr(6, 6, 1)).with(6, Rig.RAM + 0x40).steps("jalr, odd", 0)
            .holds("jalr, odd", 6, Rig.RAM + 4).stands("jalr, odd", 3, Rig.RAM + 0x40);
        new Rig(CHECK, Asm.jalr(0, 6, 2047)).with(6, 1).steps("jalr, far", 0).stands("jalr, far", 3, 2048);
        new Rig(CHECK, Asm.jalr(0, 6, 4)).with(6, -4).steps("jalr, round", 0).stands("jalr, round", 3, 0);
    }

    private static void branch(int f3, int a, int b, boolean taken) {
        String what = "branch f3 " + f3 + ", " + a + ", " + b;
        new Rig(CHECK, Asm.branch(f3, 6, 7, 64)).with(6, a).with(7, b).steps(what, 0)
            .stands(what, 3, taken ? Rig.RAM + 64 : Rig.RAM + 4);
    }

    private static void branches() {
        branch(0, 5, 5, true);
        branch(0, 5, 6, false);
        branch(0, 6, 5, false);
        branch(1, 5, 5, false);
        branch(1, 5, 6, true);
        branch(1, 6, 5, true);
        branch(4, -1, 1, true);
        branch(4, 1, -1, false);
        branch(4, 1, 1, false);
        branch(5, -1, 1, false);
        branch(5, 1, -1, true);
        branch(5, 1, 1, true);
        branch(6, -1, 1, false);
        branch(6, 1, -1, true);
        branch(6, 1, 1, false);
        branch(7, -1, 1, true);
        branch(7, 1, -1, false);
        branch(7, 1, 1, true);
    }

    private static void offsets() {
        int[] offsets = {4, -4, 0, 0xFFC, -0x1000, 0x800, -0x800, 0x554, 0xAA8, 0x7E0, 0x1C};
        for (int offset : offsets) {
            String what = "beq " + offset;
            new Rig(CHECK, Asm.branch(0, 0, 0, offset)).steps(what, 0).stands(what, 3, Rig.RAM + offset);
        }
    }

    private static void crookedTargets() {
        new Rig(CHECK, Asm.jal(5, 6)).with(5, 1).traps("jal", 0, Rig.RAM + 6).holds("jal", 5, 1);
        new Rig(CHECK, Asm.jal(5, -2)).with(5, 1).traps("jal", 0, Rig.RAM - 2).holds("jal", 5, 1);
        new Rig(CHECK, Asm.jalr(5, 6, 3)).with(5, 1).with(6, 0x1000)
            .traps("jalr", 0, 0x1002).holds("jalr", 5, 1);
        new Rig(CHECK, Asm.branch(0, 0, 0, 10)).traps("beq, taken", 0, Rig.RAM + 10);
        new Rig(CHECK, Asm.branch(1, 0, 0, 10)).steps("bne, not taken", 0).stands("bne, not taken", 3, Rig.RAM + 4);
    }

    private static void beyondRam() {
        int end = Rig.RAM + 4 * 64;
        Rig rig = Rig.ofWords(CHECK, 64, Asm.jalr(0, 1, 0)).with(1, end - 4);
        rig.machine.poke(63, Asm.NOP);
        rig.steps("jalr", 0).steps("last word", 0).stands("last word", 3, end);
        rig.put(Rig.MTVEC, 0x10000000).steps("beyond", 2).reads("beyond", Rig.MTVAL, end);
        rig.reads("beyond", Rig.MCAUSE, 1).reads("beyond", Rig.MEPC, end);
        rig.steps("console", 2).reads("console", Rig.MTVAL, 0x10000000);
        int[] places = {Rig.RAM - 4, 0, 0x02000000, 0x0200BFF8, -4};
        for (int place : places) {
            new Rig(CHECK, Asm.jalr(0, 1, 0)).with(1, place).steps("jalr", 0)
                .stands("jalr", 3, place).traps("no instruction", 1, place);
        }
    }

    private static void notThere() {
        for (int f3 = 1; f3 < 8; f3++) {
            int word = Asm.i(0x67, f3, 5, 6, 0);
            new Rig(CHECK, word).with(6, Rig.RAM).traps("jalr f3 " + f3, 2, word);
        }
        for (int f3 = 2; f3 < 4; f3++) {
            int word = Asm.branch(f3, 0, 0, 8);
            new Rig(CHECK, word).traps("branch f3 " + f3, 2, word);
        }
    }
}
