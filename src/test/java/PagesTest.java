/** Promise 5: pages. */
public final class PagesTest extends Paged {
    public static void main(String[] args) {
        walks();
        bigPages();
        whenThereAreNone();
        entriesThatAreNot();
        entriesOutsideRam();
        rightsOfLevels();
        rightsOfAccesses();
        placesAboveWords();
        deviceBehindPages();
        crookedFirst();
        levelOfLoads();
        instructions();
        claims();
        handedDown();
        CHECK.end();
    }

    private static void walks() {
        paged(1, ALL, LOAD, STORE).steps("load", 0).holds("load", 1, 777).steps("store", 0).keeps("store", DATA + 2, 55)
            .stands("store", 1, CODE + 8);
        paged(0, ALL | U, LOAD, STORE).steps("load", 0).holds("load", 1, 777).steps("store", 0)
            .keeps("store", DATA + 2, 55);
        Rig rig = paged(1, ALL, LOAD).with(2, -4);
        rig.machine.poke(FIRST + 1023, entry(0x80002, V));
        rig.machine.poke(SECOND + 1023, entry(0x80003, ALL));
        rig.machine.poke(4095, 888);
        rig.steps("last entries", 0).holds("last entries", 1, 888);
        paged(1, ALL, LOAD).put(Rig.SATP, SATP + 1).traps("another first table", 12, CODE);
        rig = paged(1, ALL, LOAD);
        rig.machine.poke(FIRST + 1, entry(0x80002, V | U | 32 | A | D | 0x300));
        rig.steps("bits that do not matter", 0).holds("bits that do not matter", 1, 777);
        rig = paged(1, ALL | 32 | 0x300, LOAD);
        rig.steps("bits that do not matter", 0).holds("bits that do not matter", 1, 777);
    }

    private static void bigPages() {
        Rig rig = paged(1, ALL, LOAD).with(2, 1 << 22 | 3 << 12 | 8);
        rig.machine.poke(FIRST + 1, entry(0x80000, ALL));
        rig.steps("big page", 0).holds("big page", 1, 777);
        for (int bit = 0; bit < 10; bit++) {
            rig = paged(1, ALL, LOAD);
            rig.machine.poke(FIRST + 1, entry(0x80000 | 1 << bit, ALL));
            rig.traps("big page, bit " + bit, 13, ADDRESS);
        }
        rig = paged(1, ALL, LOAD);
        rig.machine.poke(FIRST + 1, entry(0x80400, ALL));
        rig.traps("big page beyond RAM", 5, ADDRESS);
    }

    private static void whenThereAreNone() {
        paged(1, ALL, LOAD).put(Rig.SATP, SATP & 0x7FFFFFFF).with(2, Rig.RAM + 4 * DATA + 8)
            .steps("bit 31 is 0", 0).holds("bit 31 is 0", 1, 777);
        paged(1, ALL, LOAD).put(Rig.SATP, SATP & 0x7FFFFFFF).traps("bit 31 is 0", 5, ADDRESS);
        paged(3, ALL, LOAD).with(2, Rig.RAM + 4 * DATA + 8).steps("at M", 0).holds("at M", 1, 777);
        paged(3, ALL, LOAD).traps("at M", 5, ADDRESS);
        Rig rig = paged(1, ALL, LOAD);
        rig.machine.set(1, 2, ADDRESS);
        rig.stepsOther("the other hart has a satp of its own", 6);
    }

    private static void bothFault(String what, int dataBits, int level) {
        paged(level, dataBits, LOAD).traps(what, 13, ADDRESS).holds(what, 1, 0);
        paged(level, dataBits, STORE).traps(what, 15, ADDRESS).keeps(what, DATA + 2, 777);
    }

    private static void entriesThatAreNot() {
        bothFault("without V", ALL & ~V, 1);
        bothFault("nothing", 0, 1);
        bothFault("W without R", ALL & ~R, 1);
        bothFault("W without R and X", ALL & ~(R | X), 1);
        bothFault("second leads on", V | A | D, 1);
        bothFault("without A", ALL & ~A, 1);
        int[] firsts = {0, entry(0x80002, 0), entry(0x80002, V | W), entry(0x80000, V | W | X | A | D),
            entry(0x80000, ALL & ~V)};
        for (int first : firsts) {
            Rig rig = paged(1, ALL, LOAD);
            rig.machine.poke(FIRST + 1, first);
            rig.traps("first entry", 13, ADDRESS);
        }
    }

    private static void entriesOutsideRam() {
        int[] roots = {0x80000000, 0x80080004, 0x80002000, 0x80280001, 0x803FFFFF};
        for (int root : roots) {
            paged(1, ALL, LOAD).put(Rig.SATP, root).traps("no first entry", 1, CODE);
        }
        for (int root : roots) {
            Rig load = paged(1, ALL, LOAD);
            load.machine.poke(FIRST + 1, entry(root & 0x3FFFFF, V));
            load.traps("no second entry", 5, ADDRESS);
            Rig store = paged(1, ALL, STORE);
            store.machine.poke(FIRST + 1, entry(root & 0x3FFFFF, V));
            store.traps("no second entry", 7, ADDRESS);
        }
        Rig rig = Rig.ofWords(CHECK, 64, LOAD).with(2, ADDRESS).at(1, CODE).put(Rig.SATP, 0x80080000);
        rig.traps("first entry beyond 64 words", 1, CODE);
    }

    private static void rightsOfLevels() {
        bothFault("U without U", ALL, 0);
        bothFault("S with U", ALL | U, 1);
        paged(1, ALL | U, LOAD, STORE).put(Rig.MSTATUS, SUM).steps("S with U and SUM", 0)
            .holds("S with U and SUM", 1, 777).steps("S with U and SUM", 0).keeps("S with U and SUM", DATA + 2, 55);
        paged(1, ALL, LOAD).put(Rig.MSTATUS, SUM).steps("S without U, SUM", 0).holds("S without U, SUM", 1, 777);
        paged(0, ALL, LOAD).put(Rig.MSTATUS, SUM).traps("U without U, SUM", 13, ADDRESS);
        Rig rig = paged(1, ALL, LOAD).put(Rig.MSTATUS, SUM);
        rig.machine.poke(CODE_ENTRY, entry(0x80000, ALL | U));
        rig.traps("instruction at S with U, SUM", 12, CODE);
        rig = paged(0, ALL | U, LOAD);
        rig.machine.poke(CODE_ENTRY, entry(0x80000, ALL));
        rig.traps("instruction at U without U", 12, CODE);
    }

    private static void rightsOfAccesses() {
        paged(1, V | R | A, LOAD).steps("R", 0).holds("R", 1, 777);
        paged(1, V | R | A, STORE).traps("store without W", 15, ADDRESS);
        paged(1, V | R | A | D, STORE).traps("store without W", 15, ADDRESS);
        paged(1, V | R | W | A, STORE).traps("store without D", 15, ADDRESS);
        paged(1, V | R | W | A, LOAD).steps("load without D", 0);
        paged(1, V | R | W | A | D, STORE).steps("store", 0).keeps("store", DATA + 2, 55);
        paged(1, V | R | W | D, STORE).traps("store without A", 15, ADDRESS);
        paged(1, V | X | A | D, LOAD).traps("load of X", 13, ADDRESS);
        paged(1, V | X | A | D, LOAD).put(Rig.MSTATUS, MXR).steps("load of X, MXR", 0).holds("load of X, MXR", 1, 777);
        paged(1, V | R | A | D, LOAD).put(Rig.MSTATUS, MXR).steps("load of R, MXR", 0).holds("load of R, MXR", 1, 777);
        paged(1, V | X | A | D, STORE).put(Rig.MSTATUS, MXR).traps("store to X, MXR", 15, ADDRESS);
        paged(1, V | X | D, LOAD).put(Rig.MSTATUS, MXR).traps("load of X without A, MXR", 13, ADDRESS);
        paged(1, ALL, Asm.load(0, 1, 2, 1)).steps("byte", 0).holds("byte", 1, 3);
        int[] code = {V | X | A, V | R | X | A, ALL};
        for (int bits : code) {
            Rig rig = paged(1, ALL, LOAD);
            rig.machine.poke(CODE_ENTRY, entry(0x80000, bits));
            rig.steps("instruction", 0).holds("instruction", 1, 777);
        }
        int[] noCode = {V | R | A, V | R | W | A | D, V | X, V | R | W | X | D, X | A, V | W | X | A};
        for (int bits : noCode) {
            Rig rig = paged(1, ALL, LOAD).put(Rig.MSTATUS, MXR);
            rig.machine.poke(CODE_ENTRY, entry(0x80000, bits));
            rig.traps("no instruction", 12, CODE);
        }
    }

    private static void placesAboveWords() {
        int[] pages = {0x180003, 0x100000, 0x280003, 0x3FFFFF, 0x100000 | 0x02000, 0x100000 | 0x10000};
        for (int page : pages) {
            Rig load = paged(1, ALL, LOAD);
            load.machine.poke(SECOND + 3, entry(page, ALL));
            load.traps("above 32 bits", 5, ADDRESS);
            Rig store = paged(1, ALL, STORE);
            store.machine.poke(SECOND + 3, entry(page, ALL));
            store.traps("above 32 bits", 7, ADDRESS);
        }
        Rig rig = paged(1, ALL, LOAD);
        rig.machine.poke(CODE_ENTRY, entry(0x180000, ALL));
        rig.traps("instruction above 32 bits", 1, CODE);
        rig = paged(1, ALL, LOAD);
        rig.machine.poke(SECOND + 3, entry(0x180003, ALL & ~A));
        rig.traps("above 32 bits and without A", 13, ADDRESS);
        rig = paged(1, ALL, STORE).with(2, (1 << 22 | 3 << 12));
        rig.machine.poke(SECOND + 3, entry(0x102000, ALL));
        rig.traps("above 32 bits, over msip", 7, 1 << 22 | 3 << 12);
    }

    private static void deviceBehindPages() {
        Rig rig = paged(1, ALL, Asm.store(2, 3, 2, 0), Asm.load(2, 1, 2, 0)).with(2, 1 << 22 | 3 << 12);
        rig.machine.poke(SECOND + 3, entry(0x02000, ALL));
        rig.steps("msip", 0).steps("msip", 0).holds("msip", 1, 1).reads("msip", Rig.MIP, 8);
        rig = paged(1, ALL, Asm.store(0, 3, 2, 0)).with(2, 1 << 22 | 3 << 12);
        rig.machine.poke(SECOND + 3, entry(0x10000, ALL));
        rig.steps("console", 0);
        CHECK.due("console behind pages", rig.machine.out(0), 55);
        rig = paged(1, ALL, LOAD);
        rig.machine.poke(SECOND + 3, entry(0x10000, ALL));
        rig.traps("nothing there", 5, ADDRESS);
        rig = paged(1, ALL, Asm.NOP);
        rig.machine.poke(CODE_ENTRY, entry(0x02000, ALL));
        rig.traps("no instruction there", 1, CODE);
        rig = paged(1, ALL, Asm.NOP);
        rig.machine.poke(CODE_ENTRY, entry(0x80002, V));
        rig.machine.poke(SECOND, entry(0x02000, ALL));
        rig.traps("no instruction there", 1, CODE);
    }

    private static void crookedFirst() {
        paged(1, 0, Asm.load(2, 1, 2, 1)).traps("crooked load", 4, ADDRESS + 1);
        paged(1, 0, Asm.store(2, 1, 2, 1)).traps("crooked store", 6, ADDRESS + 1);
        paged(1, 0, Asm.atomic(2, 1, 2, 0)).with(2, ADDRESS + 1).traps("crooked LR", 4, ADDRESS + 1);
        paged(1, 0, Asm.atomic(3, 1, 2, 0)).with(2, ADDRESS + 2).traps("crooked SC", 6, ADDRESS + 2);
    }

    private static void levelOfLoads() {
        paged(3, ALL, LOAD, STORE).put(Rig.MSTATUS, MPRV | 0x800).steps("MPRV, MPP S", 0).holds("MPRV, MPP S", 1, 777)
            .steps("MPRV, MPP S", 0).keeps("MPRV, MPP S", DATA + 2, 55);
        paged(3, ALL, LOAD).put(Rig.MSTATUS, MPRV).traps("MPRV, MPP U", 13, ADDRESS);
        paged(3, ALL | U, LOAD).put(Rig.MSTATUS, MPRV).steps("MPRV, MPP U", 0).holds("MPRV, MPP U", 1, 777);
        paged(3, ALL | U, LOAD).put(Rig.MSTATUS, MPRV | 0x800).traps("MPRV, MPP S, U", 13, ADDRESS);
        paged(3, ALL | U, LOAD).put(Rig.MSTATUS, MPRV | 0x800 | SUM).steps("MPRV, MPP S, U, SUM", 0);
        paged(3, ALL, LOAD).put(Rig.MSTATUS, MPRV | 0x1800).traps("MPRV, MPP M", 5, ADDRESS);
        paged(1, ALL, LOAD).put(Rig.MSTATUS, MPRV | 0x1800).steps("MPRV at S, MPP M", 0).holds("MPRV at S", 1, 777);
        paged(1, ALL, LOAD).put(Rig.MSTATUS, MPRV).steps("MPRV at S, MPP U", 0).holds("MPRV at S", 1, 777);
        paged(0, ALL | U, LOAD).put(Rig.MSTATUS, MPRV | 0x1800).steps("MPRV at U", 0).holds("MPRV at U", 1, 777);
        Rig rig = paged(3, ALL, Asm.NOP).put(Rig.MSTATUS, MPRV | 0x800);
        rig.machine.poke(CODE_ENTRY, 0);
        rig.steps("MPRV is not of instructions", 0);
        paged(3, 0, Asm.atomic(0, 1, 2, 3)).put(Rig.MSTATUS, MPRV | 0x800).traps("MPRV, sum", 15, ADDRESS);
    }

    private static void instructions() {
        Rig rig = paged(1, ALL, Asm.jalr(1, 2, 0)).steps("jalr", 0).stands("jalr", 1, ADDRESS);
        rig.machine.poke(DATA + 2, Asm.auipc(1, 0));
        rig.machine.poke(DATA + 3, Asm.EBREAK);
        rig.steps("auipc", 0).holds("auipc", 1, ADDRESS).stands("auipc", 1, ADDRESS + 4);
        rig.traps("EBREAK", 3, ADDRESS + 4);
        paged(1, ALL & ~X, Asm.jalr(1, 2, 0)).steps("jalr", 0).traps("no X", 12, ADDRESS);
    }

    private static void claims() {
        int lr = Asm.atomic(2, 1, 2, 0);
        int sc = Asm.atomic(3, 1, 2, 3);
        paged(1, ALL, lr, sc).steps("LR", 0).holds("LR", 1, 777).steps("SC", 0).holds("SC", 1, 0)
            .keeps("SC", DATA + 2, 55);
        paged(1, V | R | A, lr).steps("LR is a load", 0).holds("LR is a load", 1, 777);
        paged(1, V | X | A, lr).traps("LR is a load", 13, ADDRESS);
        paged(1, V | R | A, sc).traps("SC is a store, whatever is claimed", 15, ADDRESS);
        paged(1, V | R | W | A, sc).traps("SC wants D", 15, ADDRESS);
        paged(1, V | R | A | D, Asm.atomic(0, 1, 2, 3)).traps("sum is a store", 15, ADDRESS);
        paged(1, ALL, Asm.atomic(0, 1, 2, 3)).steps("sum", 0).holds("sum", 1, 777).keeps("sum", DATA + 2, 832);
        Rig rig = paged(1, ALL, lr, sc).steps("LR", 0).with(2, Rig.RAM + 4 * DATA + 8);
        rig.steps("the same word", 0).holds("the same word by another address", 1, 0);
        rig = paged(1, ALL, lr, sc).steps("LR", 0);
        rig.machine.poke(SECOND + 3, entry(0x80000, ALL));
        rig.steps("another word", 0).holds("another word by the same address", 1, 1);
        rig = paged(1, ALL, lr);
        rig.machine.poke(SECOND + 3, entry(0x180003, ALL));
        rig.traps("LR above 32 bits", 5, ADDRESS);
        rig = paged(1, ALL, sc).with(2, 1 << 22 | 3 << 12);
        rig.machine.poke(SECOND + 3, entry(0x02000, ALL));
        rig.traps("SC to msip", 7, 1 << 22 | 3 << 12);
    }

    private static void handedDown() {
        paged(1, 0, LOAD).put(Rig.MEDELEG, 1 << 13).trapsLower("load", 13, ADDRESS);
        paged(0, ALL, STORE).put(Rig.MEDELEG, 1 << 15).trapsLower("store", 15, ADDRESS);
        Rig rig = paged(1, 0, LOAD).put(Rig.MEDELEG, 1 << 12);
        rig.machine.poke(CODE_ENTRY, 0);
        rig.trapsLower("instruction", 12, CODE);
        paged(1, 0, LOAD).put(Rig.MEDELEG, ~(1 << 13)).traps("load", 13, ADDRESS);
        paged(3, 0, LOAD).put(Rig.MEDELEG, -1).put(Rig.MSTATUS, MPRV | 0x800).traps("load at M", 13, ADDRESS);
    }
}
