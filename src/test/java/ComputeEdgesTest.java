import java.math.BigInteger;

/** Terms, INSTRUCTIONS that compute, jump, load and store: each sentence that names an edge, with a test of its own. */
public final class ComputeEdgesTest {
    private static final Check CHECK = new Check();
    private static final int LEAST = Integer.MIN_VALUE;
    private static final int GREATEST = Integer.MAX_VALUE;
    private static final int MIDDLE = Rig.RAM + 0x1000;

    public static void main(String[] args) {
        fields();
        immediates();
        upperBits();
        jumpOffsets();
        jumpsByRegister();
        branchOffsets();
        branches();
        loads();
        stores();
        withImmediate();
        shiftsByImmediate();
        withRegister();
        lessAndShift();
        products();
        quotients();
        rests();
        fence();
        CHECK.end();
    }

    private static void fields() {
        CHECK.sentence("rd bits 7 .. 11, rs1 15 .. 19, rs2 20 .. 24, f3 12 .. 14, f7 25 .. 31");
        for (int i = 1; i < 32; i++) {
            int a = i == 31 ? 30 : 31;
            new Rig(CHECK, Asm.op(0x20, 0, i, a, 0)).with(a, 70).steps("rd " + i, 0).holds("rd " + i, i, 70);
            new Rig(CHECK, Asm.op(0x20, 0, a, i, 0)).with(i, 71).steps("rs1 " + i, 0).holds("rs1 " + i, a, 71);
            new Rig(CHECK, Asm.op(0x20, 0, a, 0, i)).with(i, 72).steps("rs2 " + i, 0).holds("rs2 " + i, a, -72);
        }
    }

    private static void immediates() {
        CHECK.sentence("I the bits 20 .. 31 with their sign");
        int[] numbers = {0, 1, -1, 2047, -2048, 1024, -1024, 1365, -1366};
        for (int n : numbers) {
            new Rig(CHECK, Asm.addi(1, 2, n)).with(2, 5000).steps("add " + n, 0).holds("add " + n, 1, 5000 + n);
            new Rig(CHECK, Asm.jalr(1, 2, n)).with(2, MIDDLE - n).steps("JALR " + n, 0).stands("JALR " + n, 3, MIDDLE);
            new Rig(CHECK, Asm.load(2, 1, 2, n)).with(2, MIDDLE - n).poke(1024, 77)
                .steps("load " + n, 0).holds("load " + n, 1, 77);
        }
    }

    private static void upperBits() {
        CHECK.sentence("0x37 LUI: rd = the word's upper 20 bits; 0x17 AUIPC: pc + those.");
        int[] uppers = {0, 0x1000, 0x7FFFF000, 0x80000000, 0xFFFFF000};
        for (int upper : uppers) {
            new Rig(CHECK, Asm.lui(1, upper), Asm.auipc(1, upper)).with(1, 9).steps("LUI", 0).holds("LUI", 1, upper)
                .steps("AUIPC", 0).holds("AUIPC", 1, Rig.RAM + 4 + upper).stands("AUIPC", 3, Rig.RAM + 8);
        }
    }

    private static void jumpOffsets() {
        CHECK.sentence("0x6F JAL: rd = pc + 4, pc = pc + offset (bit 20 of it is bit 31, 10 .. 1: 30 .. 21, 11: 20, "
            + "19 .. 12: 19 .. 12; with sign)");
        for (int bit = 2; bit < 20; bit++) {
            jumps(1 << bit);
            jumps(-1 << bit);
        }
        jumps(0);
        jumps(0xFFFFC);
        jumps(-0x100000);
        new Rig(CHECK, Asm.jal(1, 2)).traps("bit 1", 0, Rig.RAM + 2);
    }

    private static void jumps(int offset) {
        String what = "offset " + offset;
        new Rig(CHECK, Asm.jal(1, offset)).steps(what, 0).stands(what, 3, Rig.RAM + offset).holds(what, 1, Rig.RAM + 4);
        new Rig(CHECK, Asm.jal(0, offset)).steps(what, 0).stands(what, 3, Rig.RAM + offset).holds(what, 0, 0);
    }

    private static void jumpsByRegister() {
        CHECK.sentence("0x67, f3 0 JALR: rd = pc + 4, pc = rs1 + I without its lowest bit.");
        for (int low = 0; low < 2; low++) {
            new Rig(CHECK, Asm.jalr(1, 2, low)).with(2, MIDDLE).steps("I", 0).stands("I", 3, MIDDLE)
                .holds("I", 1, Rig.RAM + 4);
            new Rig(CHECK, Asm.jalr(1, 2, 0)).with(2, MIDDLE + low).steps("rs1", 0).stands("rs1", 3, MIDDLE);
            new Rig(CHECK, Asm.jalr(2, 2, low)).with(2, MIDDLE).steps("rd is rs1", 0).stands("rd is rs1", 3, MIDDLE)
                .holds("rd is rs1", 2, Rig.RAM + 4);
        }
        new Rig(CHECK, Asm.jalr(1, 2, 3)).with(2, MIDDLE + 1).steps("odd and odd", 0)
            .stands("odd and odd", 3, MIDDLE + 4);
        for (int f3 = 1; f3 < 8; f3++) {
            int word = Asm.i(0x67, f3, 1, 2, 0);
            new Rig(CHECK, word).with(1, 9).with(2, MIDDLE).traps("f3 " + f3, 2, word).holds("f3 " + f3, 1, 9);
        }
    }

    private static void branchOffsets() {
        CHECK.sentence("(12: 31, 10 .. 5: 30 .. 25, 4 .. 1: 11 .. 8, 11: 7; with sign)");
        for (int bit = 2; bit < 12; bit++) {
            branches(0, 0, 0, 1 << bit, true);
            branches(0, 0, 0, -1 << bit, true);
        }
        branches(0, 0, 0, 0, true);
        branches(0, 0, 0, 0xFFC, true);
        branches(0, 0, 0, -0x1000, true);
        new Rig(CHECK, Asm.branch(0, 0, 0, 2)).traps("bit 1", 0, Rig.RAM + 2);
    }

    private static void branches(int f3, int a, int b, int offset, boolean taken) {
        String what = "f3 " + f3 + ", " + a + ", " + b + ", offset " + offset;
        new Rig(CHECK, Asm.branch(f3, 2, 3, offset)).with(2, a).with(3, b).steps(what, 0)
            .stands(what, 3, taken ? Rig.RAM + offset : Rig.RAM + 4);
    }

    private static void branches() {
        CHECK.sentence("f3 0 equal, 1 not, 4 less, 5 not less, 6 less without signs, 7 not less without signs");
        int[][] rows = {
            // a, b, equal, less, less without signs
            {0, 0, 1, 0, 0}, {-1, -1, 1, 0, 0}, {LEAST, LEAST, 1, 0, 0}, {0, -1, 0, 0, 1}, {-1, 0, 0, 1, 0},
            {LEAST, GREATEST, 0, 1, 0}, {GREATEST, LEAST, 0, 0, 1}, {LEAST, 0, 0, 1, 0}, {0, LEAST, 0, 0, 1},
            {GREATEST, GREATEST - 1, 0, 0, 0}, {-2, -1, 0, 1, 1}, {0, 1, 0, 1, 1}, {LEAST, LEAST + 1, 0, 1, 1},
        };
        for (int[] row : rows) {
            branches(0, row[0], row[1], 64, row[2] == 1);
            branches(1, row[0], row[1], 64, row[2] == 0);
            branches(4, row[0], row[1], 64, row[3] == 1);
            branches(5, row[0], row[1], 64, row[3] == 0);
            branches(6, row[0], row[1], 64, row[4] == 1);
            branches(7, row[0], row[1], 64, row[4] == 0);
        }
        for (int f3 = 2; f3 < 4; f3++) {
            int word = Asm.branch(f3, 0, 0, 64);
            new Rig(CHECK, word).traps("f3 " + f3, 2, word);
        }
    }

    private static void load(int f3, int offset, int word, int want) {
        String what = "f3 " + f3 + " at " + offset + " of " + Integer.toHexString(word);
        new Rig(CHECK, Asm.load(f3, 1, 2, offset)).with(1, 9).with(2, MIDDLE).poke(1024, word).poke(1023, -1)
            .poke(1025, -1).steps(what, 0).holds(what, 1, want).stands(what, 3, Rig.RAM + 4);
    }

    private static void loads() {
        CHECK.sentence("f3 0 byte, 1 half, 2 word, 4 byte, 5 half without sign");
        for (int at = 0; at < 4; at++) {
            load(0, at, 0x7F << 8 * at, 0x7F);
            load(0, at, 0x80 << 8 * at, -0x80);
            load(0, at, 0xFF << 8 * at, -1);
            load(0, at, ~(0xFF << 8 * at), 0);
            load(4, at, 0x7F << 8 * at, 0x7F);
            load(4, at, 0x80 << 8 * at, 0x80);
            load(4, at, -1, 0xFF);
            load(4, at, ~(0xFF << 8 * at), 0);
        }
        for (int at = 0; at < 4; at += 2) {
            load(1, at, 0x7FFF << 8 * at, 0x7FFF);
            load(1, at, 0x8000 << 8 * at, -0x8000);
            load(1, at, -1, -1);
            load(1, at, ~(0xFFFF << 8 * at), 0);
            load(5, at, 0x7FFF << 8 * at, 0x7FFF);
            load(5, at, 0x8000 << 8 * at, 0x8000);
            load(5, at, -1, 0xFFFF);
            load(5, at, ~(0xFFFF << 8 * at), 0);
        }
        load(2, 0, LEAST, LEAST);
        load(2, 0, GREATEST, GREATEST);
        load(2, 0, 0, 0);
        int[] none = {3, 6, 7};
        for (int f3 : none) {
            int word = Asm.load(f3, 1, 2, 0);
            new Rig(CHECK, word).with(1, 9).with(2, MIDDLE).traps("f3 " + f3, 2, word).holds("f3 " + f3, 1, 9);
        }
    }

    private static void stores() {
        CHECK.sentence("0x23 stores to rs1 + (f7 and rd as 12 bits, with sign): f3 0, 1, 2.");
        int[] offsets = {0, 4, 16, 28, 32, -4, -32, 2044, -2048, 1024, 0x554, 0x2A8};
        for (int offset : offsets) {
            new Rig(CHECK, Asm.store(2, 1, 2, offset)).with(1, 77).with(2, MIDDLE)
                .steps("offset " + offset, 0).keeps("offset " + offset, 1024 + offset / 4, 77);
        }
        new Rig(CHECK, Asm.store(0, 1, 2, 2047)).with(1, 77).with(2, MIDDLE)
            .steps("the greatest", 0).keeps("the greatest", 1535, 77 << 24);
        new Rig(CHECK, Asm.store(0, 1, 2, -1)).with(1, 77).with(2, MIDDLE).steps("-1", 0).keeps("-1", 1023, 77 << 24);
        int[] masks = {0xFF, 0xFFFF, -1};
        for (int f3 = 0; f3 < 3; f3++) {
            for (int at = 0; at < 4; at += 1 << f3) {
                String what = "f3 " + f3 + " at " + at;
                int mask = masks[f3] << 8 * at;
                new Rig(CHECK, Asm.store(f3, 1, 2, at)).with(1, -1).with(2, MIDDLE).steps(what, 0)
                    .keeps(what, 1024, mask)
                    .keeps(what, 1023, 0).keeps(what, 1025, 0).holds(what, 1, -1);
                new Rig(CHECK, Asm.store(f3, 1, 2, at)).with(1, 0).with(2, MIDDLE).poke(1024, -1).steps(what, 0)
                    .keeps(what, 1024, ~mask);
            }
        }
        for (int f3 = 3; f3 < 8; f3++) {
            int word = Asm.store(f3, 1, 2, 0);
            new Rig(CHECK, word).with(1, 5).with(2, MIDDLE).traps("f3 " + f3, 2, word).keeps("f3 " + f3, 1024, 0);
        }
    }

    private static void immediate(int f3, int a, int n, int want) {
        String what = "f3 " + f3 + ", " + a + ", " + n;
        new Rig(CHECK, Asm.opImmediate(f3, 1, 2, n)).with(1, 9).with(2, a).steps(what, 0).holds(what, 1, want)
            .holds(what, 2, a).stands(what, 3, Rig.RAM + 4);
    }

    private static void withImmediate() {
        CHECK.sentence("f3 0 add, 2 less (1, else 0), 3 less without signs, 4 exclusive-or, 6 or, 7 and");
        immediate(0, GREATEST, 1, LEAST);
        immediate(0, LEAST, -1, GREATEST);
        immediate(0, -1, 1, 0);
        immediate(2, LEAST, 0, 1);
        immediate(2, GREATEST, -1, 0);
        immediate(2, -1, -1, 0);
        immediate(2, -2, -1, 1);
        immediate(2, 2046, 2047, 1);
        immediate(2, -2048, -2048, 0);
        immediate(3, 0, 0, 0);
        immediate(3, 0, 1, 1);
        immediate(3, 0, -1, 1);
        immediate(3, -1, -1, 0);
        immediate(3, -2, -1, 1);
        immediate(3, LEAST, GREATEST & 0x7FF, 0);
        immediate(3, GREATEST, -2048, 1);
        immediate(4, -1, -1, 0);
        immediate(4, 0x55555555, -1, 0xAAAAAAAA);
        immediate(4, 5, 3, 6);
        immediate(6, 0, -2048, -2048);
        immediate(6, 5, 3, 7);
        immediate(7, -1, -2048, -2048);
        immediate(7, -1, 2047, 2047);
        immediate(7, 5, 3, 1);
    }

    private static void shiftsByImmediate() {
        CHECK.sentence("1 to the left, f7 0; 5 to the right, f7 0 without, 0x20 with sign, "
            + "by the number of the rs2 field");
        for (int by = 0; by < 32; by++) {
            immediate(1, -1, by, -1 << by);
            immediate(5, -1, by, -1 >>> by);
            immediate(5, LEAST, 0x400 | by, LEAST >> by);
            immediate(5, GREATEST, 0x400 | by, GREATEST >> by);
        }
        for (int f7 = 0; f7 < 128; f7++) {
            int left = Asm.opImmediate(1, 1, 2, f7 << 5 | 3);
            if (f7 != 0) {
                new Rig(CHECK, left).with(1, 9).with(2, 5).traps("left, f7 " + f7, 2, left).holds("left", 1, 9);
            }
            int right = Asm.opImmediate(5, 1, 2, f7 << 5 | 3);
            if (f7 != 0 && f7 != 0x20) {
                new Rig(CHECK, right).with(1, 9).with(2, 5).traps("right, f7 " + f7, 2, right).holds("right", 1, 9);
            }
        }
    }

    private static void register(int f7, int f3, int a, int b, int want) {
        String what = "f7 " + f7 + ", f3 " + f3 + ", " + a + ", " + b;
        new Rig(CHECK, Asm.op(f7, f3, 1, 2, 3)).with(1, 9).with(2, a).with(3, b).steps(what, 0).holds(what, 1, want)
            .holds(what, 2, a).holds(what, 3, b).stands(what, 3, Rig.RAM + 4);
    }

    private static void withRegister() {
        CHECK.sentence("0x33: f7 0: f3 as those, by the lowest five bits of rs2's number, with rs2");
        register(0, 0, GREATEST, 1, LEAST);
        register(0, 0, -1, 1, 0);
        register(0, 2, LEAST, GREATEST, 1);
        register(0, 2, GREATEST, LEAST, 0);
        register(0, 2, 7, 7, 0);
        register(0, 3, LEAST, GREATEST, 0);
        register(0, 3, GREATEST, LEAST, 1);
        register(0, 3, 0, -1, 1);
        register(0, 3, -1, -1, 0);
        register(0, 4, -1, GREATEST, LEAST);
        register(0, 6, LEAST, GREATEST, -1);
        register(0, 7, LEAST, GREATEST, 0);
        register(0, 7, -1, LEAST, LEAST);
        int[] counts = {0, 1, 31, 32, 33, 63, -1, -32, LEAST, GREATEST};
        for (int by : counts) {
            register(0, 1, -1, by, -1 << (by & 31));
            register(0, 5, -1, by, -1 >>> (by & 31));
        }
    }

    private static void lessAndShift() {
        CHECK.sentence("f7 0x20: f3 0 less rs2, 5 to the right with sign");
        register(0x20, 0, LEAST, 1, GREATEST);
        register(0x20, 0, 0, LEAST, LEAST);
        register(0x20, 0, 5, 5, 0);
        int[] counts = {0, 1, 31, 32, 33, -1, LEAST};
        for (int by : counts) {
            register(0x20, 5, LEAST, by, LEAST >> (by & 31));
            register(0x20, 5, GREATEST, by, GREATEST >> (by & 31));
        }
        for (int f7 = 0; f7 < 128; f7++) {
            for (int f3 = 0; f3 < 8; f3++) {
                boolean there = f7 < 2 || f7 == 0x20 && (f3 == 0 || f3 == 5);
                if (!there) {
                    int word = Asm.op(f7, f3, 1, 2, 3);
                    new Rig(CHECK, word).with(1, 9).traps("f7 " + f7 + ", f3 " + f3, 2, word).holds("not there", 1, 9);
                }
            }
        }
    }

    private static void products() {
        CHECK.sentence("f7 1: f3 0 times, lower word; 1 upper word, 2 upper word of rs1 with sign times rs2 without, "
            + "3 both without");
        int[] numbers = {0, 1, -1, 2, LEAST, GREATEST, 0x10000, 0xFFFF, -2};
        for (int a : numbers) {
            for (int b : numbers) {
                BigInteger sa = BigInteger.valueOf(a);
                BigInteger sb = BigInteger.valueOf(b);
                BigInteger ua = BigInteger.valueOf(a & 0xFFFFFFFFL);
                BigInteger ub = BigInteger.valueOf(b & 0xFFFFFFFFL);
                register(1, 0, a, b, sa.multiply(sb).intValue());
                register(1, 1, a, b, sa.multiply(sb).shiftRight(32).intValue());
                register(1, 2, a, b, sa.multiply(ub).shiftRight(32).intValue());
                register(1, 3, a, b, ua.multiply(ub).shiftRight(32).intValue());
            }
        }
    }

    private static void quotients() {
        CHECK.sentence("4 divided, 5 without signs (by 0: all ones; the least by -1: itself)");
        int[] numbers = {0, 1, -1, 7, -7, LEAST, GREATEST};
        for (int a : numbers) {
            register(1, 4, a, 0, -1);
            register(1, 5, a, 0, -1);
        }
        register(1, 4, LEAST, -1, LEAST);
        register(1, 4, LEAST + 1, -1, GREATEST);
        register(1, 4, LEAST, 1, LEAST);
        register(1, 4, -7, 2, -3);
        register(1, 4, 7, -2, -3);
        register(1, 4, -7, -2, 3);
        register(1, 4, 1, LEAST, 0);
        register(1, 5, LEAST, -1, 0);
        register(1, 5, -1, -1, 1);
        register(1, 5, -1, 1, -1);
        register(1, 5, -1, 2, GREATEST);
        register(1, 5, GREATEST, LEAST, 0);
    }

    private static void rests() {
        CHECK.sentence("6 rest, 7 without signs (by 0: rs1; the least by -1: 0)");
        int[] numbers = {0, 1, -1, 7, -7, LEAST, GREATEST};
        for (int a : numbers) {
            register(1, 6, a, 0, a);
            register(1, 7, a, 0, a);
        }
        register(1, 6, LEAST, -1, 0);
        register(1, 6, -7, 2, -1);
        register(1, 6, 7, -2, 1);
        register(1, 6, -7, -2, -1);
        register(1, 6, 1, LEAST, 1);
        register(1, 7, LEAST, -1, LEAST);
        register(1, 7, -1, -1, 0);
        register(1, 7, -1, 2, 1);
        register(1, 7, -1, 10, 5);
    }

    private static void fence() {
        CHECK.sentence("0x0F: nothing.");
        for (int f3 = 0; f3 < 8; f3++) {
            int[] words = {f3 << 12 | 0x0F, 0xFFFF8F8F | f3 << 12};
            for (int word : words) {
                for (int level = 0; level < 4; level += level == 1 ? 2 : 1) {
                    new Rig(CHECK, word).with(31, 9).at(level, Rig.RAM).steps("f3 " + f3, 0).holds("f3 " + f3, 31, 9)
                        .stands("f3 " + f3, level, Rig.RAM + 4);
                }
            }
        }
    }
}
