/** What the tests of pages share: the first table stands at word 1024, the second at 2048, the data at 3072. */
class Paged {
    static final Check CHECK = new Check();
    static final int V = 1;
    static final int R = 2;
    static final int W = 4;
    static final int X = 8;
    static final int U = 16;
    static final int A = 64;
    static final int D = 128;
    static final int ALL = V | R | W | X | A | D;
    static final int SATP = 0x80080001;
    static final int SUM = 0x40000;
    static final int MXR = 0x80000;
    static final int MPRV = 0x20000;
    static final int FIRST = 1024;
    static final int SECOND = 2048;
    static final int DATA = 3072;
    /** The first entry of the code, which is mapped to itself. */
    static final int CODE_ENTRY = FIRST + 0x200;
    static final int CODE = Rig.RAM;
    /** Reached through first entry 1, second entry 3: word 3072 + 2. */
    static final int ADDRESS = 1 << 22 | 3 << 12 | 8;
    static final int LOAD = Asm.load(2, 1, 2, 0);
    static final int STORE = Asm.store(2, 3, 2, 0);

    static int entry(int page, int bits) {
        return page << 10 | bits;
    }

    /** Hart 0 at a level, its code in a big page that maps RAM to itself, and one page of data behind ADDRESS. */
    static Rig paged(int level, int dataBits, int... program) {
        Rig rig = new Rig(CHECK, program);
        rig.poke(CODE_ENTRY, entry(0x80000, level == 0 ? ALL | U : ALL));
        rig.poke(FIRST + 1, entry(0x80002, V));
        rig.poke(SECOND + 3, entry(0x80003, dataBits));
        rig.poke(DATA + 2, 777);
        rig.with(2, ADDRESS).with(3, 55);
        return rig.at(level, CODE).put(Rig.SATP, SATP);
    }
}
