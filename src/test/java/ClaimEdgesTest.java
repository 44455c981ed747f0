/** Terms, the instructions of 0x2F: each sentence that names an edge, with a test of its own. */
public final class ClaimEdgesTest extends Paged {
    private static final int LEAST = Integer.MIN_VALUE;
    private static final int GREATEST = Integer.MAX_VALUE;
    private static final int WORD = Rig.RAM + 0x80;
    private static final int LAST = Rig.RAM + 4 * 4095;
    private static final int LR = Asm.lr(1, 2);
    private static final int SC = Asm.sc(1, 2, 3);
    private static final int[] CHANGES = {0, 1, 4, 8, 0xC, 0x10, 0x14, 0x18, 0x1C};

    public static void main(String[] args) {
        words();
        loadsThatClaim();
        storesIfClaimed();
        claimsNothingThen();
        changes();
        otherBits();
        trapsAsLoadsAndStores();
        notRam();
        storesTakeClaims();
        CHECK.end();
    }

    private static void words() {
        CHECK.sentence("0x2F, f3 2, at the address rs1, a word");
        int[] places = {Rig.RAM + 4, WORD, LAST};
        for (int place : places) {
            int k = place - Rig.RAM >> 2;
            String what = "word " + k;
            new Rig(CHECK, LR).with(2, place).poke(k, LEAST).steps(what, 0).holds(what, 1, LEAST).keeps(what, k, LEAST);
            new Rig(CHECK, Asm.atomic(0, 1, 2, 3)).with(2, place).with(3, -1).poke(k, LEAST).steps(what, 0)
                .holds(what, 1, LEAST).keeps(what, k, GREATEST).keeps(what, k - 1, k == 1 ? Asm.atomic(0, 1, 2, 3) : 0)
                .keeps(what, k + 1, 0).stands(what, 3, Rig.RAM + 4);
        }
        for (int f3 = 0; f3 < 8; f3++) {
            if (f3 != 2) {
                int[] kinds = {0, 1, 2, 3, 4, 0x1C};
                for (int kind : kinds) {
                    int word = Asm.r(0x2F, kind << 2, f3, 1, 2, 0);
                    new Rig(CHECK, word).with(1, 9).with(2, WORD).poke(32, 5).traps("f3 " + f3, 2, word)
                        .holds("f3 " + f3, 1, 9).keeps("f3 " + f3, 32, 5);
                }
            }
        }
        for (int kind = 0; kind < 32; kind++) {
            if (kind > 3 && kind % 4 != 0) {
                int word = Asm.atomic(kind, 1, 2, 0);
                new Rig(CHECK, word).with(1, 9).with(2, WORD).poke(32, 5).traps("bits " + kind, 2, word)
                    .holds("bits " + kind, 1, 9).keeps("bits " + kind, 32, 5);
            }
        }
    }

    private static void loadsThatClaim() {
        CHECK.sentence("2 LR (rs2 0): rd the word, the hart claims it");
        for (int hart = 0; hart < 2; hart++) {
            new Rig(CHECK, LR, SC).onHart(hart).with(2, WORD).with(3, 5).poke(32, -1).steps("LR", 0).holds("LR", 1, -1)
                .keeps("LR", 32, -1).steps("SC", 0).holds("SC", 1, 0).keeps("SC", 32, 5);
            new Rig(CHECK, Asm.lr(0, 2), SC).onHart(hart).with(2, WORD).with(3, 5).poke(32, -1).steps("LR to x0", 0)
                .holds("LR to x0", 0, 0).steps("SC", 0).holds("SC", 1, 0);
            for (int rs2 = 1; rs2 < 32; rs2++) {
                int word = Asm.atomic(2, 1, 2, rs2);
                new Rig(CHECK, word).onHart(hart).with(1, 9).with(2, WORD).traps("rs2 " + rs2, 2, word)
                    .holds("LR", 1, 9);
            }
        }
        Rig rig = new Rig(CHECK, LR, SC).with(2, WORD).with(3, 5).steps("LR of 0", 0).onHart(1).with(2, WORD)
            .with(3, 6);
        rig.steps("LR of 1", 0).onHart(0).steps("both may claim one word", 0).holds("both", 1, 0).keeps("both", 32, 5);
        new Rig(CHECK, LR, Asm.lr(4, 5), SC).with(2, WORD).with(3, 6).with(5, WORD + 4).steps("LR", 0).steps("LR", 0)
            .steps("the first word is not claimed any more", 0).holds("first word", 1, 1).keeps("first word", 32, 0);
        new Rig(CHECK, LR, Asm.lr(4, 5), Asm.sc(1, 5, 3)).with(2, WORD).with(3, 6).with(5, WORD + 4).steps("LR", 0)
            .steps("LR", 0).steps("the second word is claimed", 0).holds("second", 1, 0).keeps("second", 33, 6);
    }

    private static void storesIfClaimed() {
        CHECK.sentence("3 SC: if the hart claims just it: the word is rs2, rd 0; else rd 1");
        int[] numbers = {0, -1, LEAST, GREATEST};
        for (int n : numbers) {
            new Rig(CHECK, LR, SC).with(2, WORD).with(3, n).poke(32, 77).steps("LR", 0).steps("SC", 0).holds("SC", 1, 0)
                .keeps("SC", 32, n).keeps("before", 31, 0).keeps("behind", 33, 0);
            new Rig(CHECK, SC).with(1, 9).with(2, WORD).with(3, n).poke(32, 77).steps("nothing claimed", 0)
                .holds("nothing claimed", 1, 1).keeps("nothing claimed", 32, 77);
        }
        int[] beside = {-4, 4, 0x80};
        for (int offset : beside) {
            new Rig(CHECK, LR, Asm.addi(2, 2, offset), SC).with(2, WORD).with(3, 5).steps("LR", 0).steps("add", 0)
                .steps("beside", 0).holds("beside", 1, 1).keeps("beside", 32 + offset / 4, 0).keeps("beside", 32, 0);
        }
        Rig rig = new Rig(CHECK, LR, SC).with(2, WORD).with(3, 5).steps("LR of the other", 0);
        rig.onHart(1).with(2, WORD).with(3, 6).poke(0, SC).steps("the other's claim", 0).holds("the other's", 1, 1);
        rig.keeps("the other's", 32, 0);
        new Rig(CHECK, LR, Asm.sc(3, 2, 3)).with(2, WORD).with(3, 5).steps("LR", 0).steps("rd is rs2", 0)
            .holds("rd is rs2", 3, 0).keeps("rd is rs2", 32, 5);
        new Rig(CHECK, LR, Asm.sc(2, 2, 3)).with(2, WORD).with(3, 5).steps("LR", 0).steps("rd is rs1", 0)
            .holds("rd is rs1", 2, 0).keeps("rd is rs1", 32, 5);
        new Rig(CHECK, LR, Asm.sc(0, 2, 0)).with(2, WORD).poke(32, 77).steps("LR", 0).steps("x0", 0)
            .holds("x0", 0, 0).keeps("x0", 32, 0);
        paged(1, ALL, LR, SC).steps("LR", 0).with(2, Rig.RAM + 4 * DATA + 8).steps("the word by another address", 0)
            .holds("the word by another address", 1, 0).keeps("the word by another address", DATA + 2, 55);
        paged(1, ALL, LR, SC).steps("LR", 0).poke(SECOND + 3, entry(0x80000, ALL)).steps("another word there", 0)
            .holds("another word there", 1, 1);
    }

    private static void claimsNothingThen() {
        CHECK.sentence("the hart claims nothing then");
        new Rig(CHECK, LR, SC, SC).with(2, WORD).with(3, 5).steps("LR", 0).steps("SC", 0).holds("SC", 1, 0).with(3, 6)
            .steps("SC again", 0).holds("SC again", 1, 1).keeps("SC again", 32, 5);
        new Rig(CHECK, LR, Asm.sc(4, 5, 3), SC).with(2, WORD).with(3, 5).with(5, WORD + 4).steps("LR", 0)
            .steps("SC elsewhere", 0).holds("SC elsewhere", 4, 1).steps("SC", 0).holds("SC", 1, 1).keeps("SC", 32, 0);
        Rig rig = new Rig(CHECK, LR, SC).with(2, WORD).with(3, 5).steps("LR", 0);
        rig.onHart(1).with(2, WORD).with(3, 6).poke(0, SC).steps("SC of the other that fails", 0).holds("fails", 1, 1);
        rig.onHart(0).steps("takes the other's claim alone", 0).holds("SC", 1, 0).keeps("SC", 32, 5);
    }

    private static void change(int kind, int old, int operand, int want) {
        String what = "bits " + kind + ", " + old + ", " + operand;
        new Rig(CHECK, Asm.atomic(kind, 1, 2, 3)).with(1, 9).with(2, WORD).with(3, operand).poke(32, old).steps(what, 0)
            .holds(what, 1, old).keeps(what, 32, want).holds(what, 3, operand).keeps(what, 31, 0).keeps(what, 33, 0);
    }

    private static void changes() {
        CHECK.sentence("and rd the word, the word becomes: 1 rs2, 0 the sum, 4 exclusive-or, 0xC and, 8 or, "
            + "0x10 the lesser, 0x14 the greater (with signs), 0x18 the lesser, 0x1C the greater (without signs) "
            + "of it and rs2.");
        int[] numbers = {0, 1, -1, LEAST, GREATEST, LEAST + 1, -2, 0x55555555};
        for (int old : numbers) {
            for (int b : numbers) {
                boolean below = (old & 0xFFFFFFFFL) < (b & 0xFFFFFFFFL);
                change(1, old, b, b);
                change(0, old, b, old + b);
                change(4, old, b, old ^ b);
                change(0xC, old, b, old & b);
                change(8, old, b, old | b);
                change(0x10, old, b, old < b ? old : b);
                change(0x14, old, b, old < b ? b : old);
                change(0x18, old, b, below ? old : b);
                change(0x1C, old, b, below ? b : old);
            }
        }
        new Rig(CHECK, Asm.atomic(0, 3, 2, 3)).with(2, WORD).with(3, 5).poke(32, 7).steps("rd is rs2", 0)
            .holds("rd is rs2", 3, 7).keeps("rd is rs2", 32, 12);
        new Rig(CHECK, Asm.atomic(1, 2, 2, 2)).with(2, WORD).poke(32, 7).steps("all are one", 0)
            .holds("all are one", 2, 7).keeps("all are one", 32, WORD);
        new Rig(CHECK, Asm.atomic(0, 0, 2, 3)).with(2, WORD).with(3, 5).poke(32, 7).steps("rd is x0", 0)
            .holds("rd is x0", 0, 0).keeps("rd is x0", 32, 12);
    }

    private static void otherBits() {
        CHECK.sentence("(The other bits of f7 do not matter.)");
        for (int bits = 0; bits < 4; bits++) {
            String what = "bits " + bits;
            new Rig(CHECK, LR | bits << 25, SC | bits << 25).with(2, WORD).with(3, 5).poke(32, 7).steps(what, 0)
                .holds(what, 1, 7).steps(what, 0).holds(what, 1, 0).keeps(what, 32, 5);
            for (int kind : CHANGES) {
                new Rig(CHECK, Asm.atomic(kind, 1, 2, 3) | bits << 25).with(2, WORD).with(3, 7).poke(32, 7)
                    .steps(what + " of " + kind, 0).holds(what, 1, 7);
            }
            int word = Asm.atomic(2, 1, 2, 1) | bits << 25;
            new Rig(CHECK, word).with(2, WORD).traps(what + ", rs2 of LR does", 2, word);
        }
    }

    private static void trapsAsLoadsAndStores() {
        CHECK.sentence("LR traps as a load, others as stores (SC, too, whatever is claimed)");
        int nowhere = 0x40000000;
        new Rig(CHECK, LR).with(1, 9).with(2, WORD + 2).traps("LR", 4, WORD + 2).holds("LR", 1, 9);
        new Rig(CHECK, LR).with(1, 9).with(2, nowhere).traps("LR", 5, nowhere).holds("LR", 1, 9);
        paged(1, 0, LR).traps("LR", 13, ADDRESS).holds("LR", 1, 0);
        paged(1, V | R | A, LR).steps("LR wants R alone", 0).holds("LR wants R alone", 1, 777);
        storesTrap(SC);
        for (int kind : CHANGES) {
            storesTrap(Asm.atomic(kind, 1, 2, 3));
        }
        new Rig(CHECK, LR, SC).with(2, WORD).steps("LR", 0).with(1, 9).with(2, WORD + 1)
            .traps("SC, claimed", 6, WORD + 1);
        new Rig(CHECK, LR, SC).with(2, WORD).steps("LR", 0).with(1, 9).with(2, nowhere).traps("SC, claimed", 7, nowhere)
            .holds("SC, claimed", 1, 9);
        paged(1, V | R | A, LR, SC).steps("LR", 0).traps("SC to the claimed word", 15, ADDRESS)
            .keeps("SC", DATA + 2, 777);
    }

    private static void storesTrap(int word) {
        String what = "word " + Integer.toHexString(word);
        int nowhere = 0x40000000;
        new Rig(CHECK, word).with(1, 9).with(2, WORD + 3).traps(what, 6, WORD + 3).holds(what, 1, 9).keeps(what, 32, 0);
        new Rig(CHECK, word).with(1, 9).with(2, nowhere).traps(what, 7, nowhere).holds(what, 1, 9);
        int[] bits = {0, V | R | A, V | R | W | A, V | R | A | D, V | R | W | D};
        for (int b : bits) {
            paged(1, b, word).with(1, 9).traps(what, 15, ADDRESS).holds(what, 1, 9).keeps(what, DATA + 2, 777);
        }
    }

    private static void notRam() {
        CHECK.sentence("what is not RAM is an access fault");
        int[] places = {0x02000000, 0x02004000, 0x0200BFF8, Console.PLACE, 0, Rig.RAM - 4, LAST + 4, -4};
        int[] sizes = {16, 17, 4096};
        for (int place : places) {
            notRam(4096, place);
            paged(1, ALL, LR).poke(SECOND + 3, entry(place >>> 12, ALL)).with(2, 1 << 22 | 3 << 12 | place & 0xFFF)
                .traps("LR behind pages", 5, 1 << 22 | 3 << 12 | place & 0xFFF);
            paged(1, ALL, SC).poke(SECOND + 3, entry(place >>> 12, ALL)).with(2, 1 << 22 | 3 << 12 | place & 0xFFF)
                .traps("SC behind pages", 7, 1 << 22 | 3 << 12 | place & 0xFFF);
        }
        for (int words : sizes) {
            notRam(words, Rig.RAM + 4 * words);
            Rig.ofWords(CHECK, words, LR).with(2, Rig.RAM + 4 * words - 4).steps("LR of the last word", 0);
            Rig.ofWords(CHECK, words, Asm.atomic(0, 1, 2, 3)).with(2, Rig.RAM + 4 * words - 4).with(3, 5)
                .steps("sum of the last word", 0).keeps("sum of the last word", words - 1, 5);
        }
    }

    private static void notRam(int words, int place) {
        String what = "0x" + Integer.toHexString(place);
        Rig.ofWords(CHECK, words, LR).with(1, 9).with(2, place).traps("LR at " + what, 5, place).holds(what, 1, 9);
        Rig.ofWords(CHECK, words, SC).with(1, 9).with(2, place).traps("SC at " + what, 7, place).holds(what, 1, 9);
        for (int kind : CHANGES) {
            Rig rig = Rig.ofWords(CHECK, words, Asm.atomic(kind, 1, 2, 3)).with(1, 9).with(2, place).with(3, 1);
            rig.traps("bits " + kind + " at " + what, 7, place).holds(what, 1, 9).printed(what, 0)
                .reads(what, Rig.MIP, 0);
        }
    }

    /** Both harts claim words of their own, one does a word, then each stores if it still may. */
    private static void between(String what, int doer, int word, boolean stays) {
        Rig rig = new Rig(CHECK, LR, word, SC);
        for (int hart = 0; hart < 2; hart++) {
            rig.onHart(hart).with(2, WORD + 4 * hart).with(3, 50 + hart).with(5, Rig.RAM + 0x200).with(6, 0x02004000)
                .with(7, Console.PLACE).with(8, 0x0200BFF8).steps("LR", 0);
        }
        rig.onHart(doer).steps(what, 0);
        rig.onHart(1 - doer).poke(1, Asm.NOP).steps(what, 0).steps(what, 0);
        rig.holds(what + ": SC of the other", 1, stays ? 0 : 1).keeps(what, 33 - doer, stays ? 51 - doer : 0);
    }

    /** One hart claims a word, does another word itself, and then stores if it still may. */
    private static void byItself(String what, int word, boolean stays) {
        for (int hart = 0; hart < 2; hart++) {
            new Rig(CHECK, LR, word, SC).onHart(hart).with(2, WORD).with(3, 50).with(5, Rig.RAM + 0x200)
                .with(6, 0x02004000).with(7, Console.PLACE).with(8, 0x0200BFF8).steps("LR", 0).steps(what, 0)
                .steps(what, 0).holds(what + ": SC of itself", 1, stays ? 0 : 1).keeps(what, 32, stays ? 50 : 0);
        }
    }

    private static void both(String what, int word, boolean stays) {
        byItself(what, word, stays);
        between(what, 0, word, stays);
        between(what, 1, word, stays);
    }

    private static void storesTakeClaims() {
        CHECK.sentence("A store to RAM, of any hart, takes all claims away; "
            + "also an SC that stores and the others here.");
        both("word", Asm.store(2, 4, 5, 0), false);
        both("half", Asm.store(1, 4, 5, 0), false);
        both("byte", Asm.store(0, 4, 5, 3), false);
        both("word that stays the same", Asm.store(2, 0, 5, 4), false);
        for (int kind : CHANGES) {
            both("bits " + kind, Asm.atomic(kind, 9, 5, 4), false);
        }
        between("SC that stores", 0, Asm.sc(9, 2, 4), false);
        between("SC that stores", 1, Asm.sc(9, 2, 4), false);
        between("SC that does not", 0, Asm.sc(9, 5, 4), true);
        between("SC that does not", 1, Asm.sc(9, 5, 4), true);
        between("LR of another word", 0, Asm.lr(9, 5), true);
        both("nothing", Asm.NOP, true);
        both("load", Asm.load(2, 9, 2, 0), true);
        both("store to mtimecmp", Asm.store(2, 4, 6, 0), true);
        both("store to mtime", Asm.store(2, 4, 8, 0), true);
        both("store to the console", Asm.store(0, 4, 7, 0), true);
        both("CSR", Asm.csr(1, 9, 4, 0x340), true);
        both("fence", 0x0F, true);
        both("WFI", Asm.WFI, true);
    }
}
