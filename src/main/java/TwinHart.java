/** A machine of two harts of 32 bits over one memory; whoever calls step makes the order in which they run. */
public final class TwinHart {
    /** Nothing there. */
    public static final int NONE = -1;

    private static final int FEWEST_WORDS = 16;
    private static final int MOST_WORDS = 4096;
    private static final int USER = 0;
    private static final int SUPERVISOR = 1;
    private static final int MACHINE = 3;
    private static final int DONE = 0;
    private static final long LOWER_WORD = 0xFFFFFFFFL;

    private final Memory memory;
    private final Hart[] harts;

    public TwinHart(int words) {
        memory = new Memory(Math.max(FEWEST_WORDS, Math.min(words, MOST_WORDS)));
        harts = new Hart[] {new Hart(0), new Hart(1)};
    }

    public void reset() {
        memory.restart();
        harts[0].restart();
        harts[1].restart();
    }

    public boolean poke(int k, int word) {
        if (!memory.hasWord(k)) {
            return false;
        }
        memory.ram[k] = word;
        return true;
    }

    public int peek(int k) {
        return memory.hasWord(k) ? memory.ram[k] : 0;
    }

    public int step(int hart) {
        if (!isHart(hart)) {
            return NONE;
        }
        int answer = harts[hart].run(memory);
        if (answer != DONE) {
            memory.dropClaims();
        }
        return answer;
    }

    public void tick() {
        memory.clint.advance();
    }

    public int register(int hart, int i) {
        return isHart(hart) && isRegister(i) ? harts[hart].x[i] : 0;
    }

    public boolean set(int hart, int i, int v) {
        if (!isHart(hart) || !isRegister(i) || i == 0) {
            return false;
        }
        harts[hart].x[i] = v;
        return true;
    }

    public int pc(int hart) {
        return isHart(hart) ? harts[hart].pc : 0;
    }

    public int csr(int hart, int number) {
        return isHart(hart) ? harts[hart].csrs.read(number, memory.clint.lines(hart)) : 0;
    }

    public boolean put(int hart, int number, int v) {
        if (!isHart(hart) || !Csrs.isTold(number) || Csrs.isReadOnly(number)) {
            return false;
        }
        harts[hart].csrs.write(number, v);
        return true;
    }

    public int level(int hart) {
        return isHart(hart) ? harts[hart].level : NONE;
    }

    public int size() {
        return memory.printed;
    }

    public int out(int i) {
        return i >= 0 && i < memory.printed ? memory.console[i] & 0xFF : NONE;
    }

    private static boolean isHart(int hart) {
        return hart == 0 || hart == 1;
    }

    private static boolean isRegister(int i) {
        return i >= 0 && i < 32;
    }

    /** Why memory is touched: what it may touch, and the causes of the traps that it may meet. */
    private enum Access {
        FETCH(0, 1, 12, true, false),
        LOAD(4, 5, 13, false, false),
        STORE(6, 7, 15, false, true),
        CLAIM(4, 5, 13, true, false),
        CHANGE(6, 7, 15, true, true);

        final int misaligned;
        final int accessFault;
        final int pageFault;
        final boolean ramAlone;
        final boolean stores;

        Access(int misaligned, int accessFault, int pageFault, boolean ramAlone, boolean stores) {
            this.misaligned = misaligned;
            this.accessFault = accessFault;
            this.pageFault = pageFault;
            this.ramAlone = ramAlone;
            this.stores = stores;
        }
    }

    /** Faults travel as negative places, so that a place or a cause comes back without an object. */
    private static final class Fault {
        static long of(int cause) {
            return -1L - cause;
        }

        static int causeOf(long place) {
            return (int) (-1L - place);
        }
    }

    /** The clock and the software interrupts, kept as the eight words that a hart sees. */
    private static final class Clint {
        private static final long MSIP_PLACE = 0x02000000L;
        private static final long MTIMECMP_PLACE = 0x02004000L;
        private static final long MTIME_PLACE = 0x0200BFF8L;
        private static final int MTIMECMP = 2;
        private static final int MTIME = 6;
        private static final int SOFTWARE_LINE = 0x8;
        private static final int TIMER_LINE = 0x80;

        private final int[] words = new int[8];

        Clint() {
            restart();
        }

        void restart() {
            for (int slot = 0; slot < words.length; slot++) {
                words[slot] = slot >= MTIMECMP && slot < MTIME ? -1 : 0;
            }
        }

        void advance() {
            words[MTIME]++;
            if (words[MTIME] == 0) {
                words[MTIME + 1]++;
            }
        }

        /** The bits of mip that a hart cannot write itself. */
        int lines(int hart) {
            int software = words[hart] != 0 ? SOFTWARE_LINE : 0;
            boolean early = isBelow(MTIME, MTIMECMP + 2 * hart);
            return early ? software : software | TIMER_LINE;
        }

        private boolean isBelow(int slot, int other) {
            if (words[slot + 1] != words[other + 1]) {
                return Alu.below(words[slot + 1], words[other + 1]);
            }
            return Alu.below(words[slot], words[other]);
        }

        static int slotAt(long place) {
            if (place >= MSIP_PLACE && place < MSIP_PLACE + 8) {
                return (int) (place - MSIP_PLACE) >> 2;
            }
            if (place >= MTIMECMP_PLACE && place < MTIMECMP_PLACE + 16) {
                return MTIMECMP + ((int) (place - MTIMECMP_PLACE) >> 2);
            }
            if (place >= MTIME_PLACE && place < MTIME_PLACE + 8) {
                return MTIME + ((int) (place - MTIME_PLACE) >> 2);
            }
            return NONE;
        }

        void store(long place, int value) {
            int slot = slotAt(place);
            if (slot != NONE) {
                words[slot] = slot < MTIMECMP ? value & 1 : value;
            }
        }
    }

    /** All that has an address, and the words of it that are claimed. */
    private static final class Memory {
        private static final long RAM_PLACE = 0x80000000L;
        private static final long CONSOLE_PLACE = 0x10000000L;
        private static final long NO_CLAIM = -1;

        final int[] ram;
        final Clint clint = new Clint();
        final byte[] console = new byte[256];
        int printed = 0;
        private final long[] claims = new long[] {NO_CLAIM, NO_CLAIM};

        Memory(int words) {
            ram = new int[words];
        }

        void restart() {
            clint.restart();
            dropClaims();
        }

        boolean hasWord(int k) {
            return k >= 0 && k < ram.length;
        }

        boolean isRam(long place) {
            return place >= RAM_PLACE && place < RAM_PLACE + 4L * ram.length;
        }

        boolean allows(long place, int size, Access access) {
            if (isRam(place)) {
                return true;
            }
            if (access.ramAlone) {
                return false;
            }
            if (size == 4) {
                return Clint.slotAt(place) != NONE;
            }
            return size == 1 && access.stores && place == CONSOLE_PLACE;
        }

        /** The word of RAM that holds a place of RAM. */
        int wordAt(long place) {
            return ram[indexOf(place)];
        }

        /** What stands at a place that allows it, without sign. */
        int load(long place, int size) {
            if (isRam(place)) {
                return (ram[indexOf(place)] >>> shiftOf(place)) & maskOf(size);
            }
            int slot = Clint.slotAt(place);
            return slot == NONE ? 0 : clint.words[slot];
        }

        void store(long place, int size, int value) {
            if (isRam(place)) {
                int mask = maskOf(size) << shiftOf(place);
                int index = indexOf(place);
                ram[index] = (ram[index] & ~mask) | ((value << shiftOf(place)) & mask);
                dropClaims();
            } else if (place == CONSOLE_PLACE) {
                print(value);
            } else {
                clint.store(place, value);
            }
        }

        private void print(int value) {
            if (printed < console.length) {
                console[printed] = (byte) value;
                printed++;
            }
        }

        void claim(int hart, long place) {
            claims[hart] = place;
        }

        boolean storeIfClaimed(int hart, long place, int value) {
            boolean claimed = claims[hart] == place;
            claims[hart] = NO_CLAIM;
            if (claimed) {
                store(place, 4, value);
            }
            return claimed;
        }

        void dropClaims() {
            claims[0] = NO_CLAIM;
            claims[1] = NO_CLAIM;
        }

        private static int indexOf(long place) {
            return (int) ((place - RAM_PLACE) >> 2);
        }

        private static int shiftOf(long place) {
            return (int) (place & 3) * 8;
        }

        private static int maskOf(int size) {
            return size == 4 ? -1 : (1 << (8 * size)) - 1;
        }
    }

    /** The control and status registers of one hart, and the rules by which mstatus moves. */
    private static final class Csrs {
        private static final int SIE = 0x2;
        private static final int MIE = 0x8;
        private static final int SPIE = 0x20;
        private static final int MPIE = 0x80;
        private static final int SPP = 0x100;
        private static final int MPP = 0x1800;
        private static final int MPP_SHIFT = 11;
        private static final int MPRV = 0x20000;
        private static final int SUM = 0x40000;
        private static final int MXR = 0x80000;
        private static final int SSTATUS_BITS = SIE | SPIE | SPP | SUM | MXR;
        private static final int MSTATUS_BITS = SSTATUS_BITS | MIE | MPIE | MPP | MPRV;
        private static final int MISA = 0x40141101;
        private static final int MEDELEG_BITS = 0xB3FF;
        private static final int MIDELEG_BITS = 0x222;
        private static final int MIE_BITS = 0xAAA;
        private static final int MIP_BITS = 0x222;
        private static final int SIP_BITS = 0x2;
        private static final int SATP_BITS = 0x803FFFFF;
        private static final int[] INTERRUPT_ORDER = {3, 7, 9, 1, 5};

        private final int hart;
        private int mstatus;
        private int medeleg;
        private int mideleg;
        private int mie;
        private int mtvec;
        private int mepc;
        private int mscratch;
        private int mcause;
        private int mtval;
        private int mip;
        private int stvec;
        private int sepc;
        private int sscratch;
        private int scause;
        private int stval;
        private int satp;

        Csrs(int hart) {
            this.hart = hart;
        }

        void restart() {
            mstatus = 0;
            medeleg = 0;
            mideleg = 0;
            mie = 0;
            mtvec = 0;
            mepc = 0;
            mscratch = 0;
            mcause = 0;
            mtval = 0;
            mip = 0;
            stvec = 0;
            sepc = 0;
            sscratch = 0;
            scause = 0;
            stval = 0;
            satp = 0;
        }

        static boolean isTold(int number) {
            switch (number) {
                case 0x100: case 0x104: case 0x105:
                case 0x140: case 0x141: case 0x142: case 0x143: case 0x144:
                case 0x180:
                case 0x300: case 0x301: case 0x302: case 0x303: case 0x304: case 0x305:
                case 0x340: case 0x341: case 0x342: case 0x343: case 0x344:
                case 0xF11: case 0xF12: case 0xF13: case 0xF14:
                    return true;
                default:
                    return false;
            }
        }

        static boolean isReadOnly(int number) {
            return (number & 0xC00) == 0xC00;
        }

        static boolean isAllowed(int number, int level, boolean writes) {
            return isTold(number) && level >= ((number >> 8) & 3) && !(writes && isReadOnly(number));
        }

        /** The CSR as it is read, 0 for a number that is not told; lines are the bits of mip from outside. */
        int read(int number, int lines) {
            switch (number) {
                case 0x100: return mstatus & SSTATUS_BITS;
                case 0x104: return mie & mideleg;
                case 0x105: return stvec;
                case 0x140: return sscratch;
                case 0x141: return sepc;
                case 0x142: return scause;
                case 0x143: return stval;
                case 0x144: return (mip | lines) & mideleg;
                case 0x180: return satp;
                case 0x300: return mstatus;
                case 0x301: return MISA;
                case 0x302: return medeleg;
                case 0x303: return mideleg;
                case 0x304: return mie;
                case 0x305: return mtvec;
                case 0x340: return mscratch;
                case 0x341: return mepc;
                case 0x342: return mcause;
                case 0x343: return mtval;
                case 0x344: return mip | lines;
                case 0xF14: return hart;
                default: return 0;
            }
        }

        void write(int number, int v) {
            if (number < 0x300) {
                writeSupervisor(number, v);
            } else {
                writeMachine(number, v);
            }
        }

        private void writeSupervisor(int number, int v) {
            switch (number) {
                case 0x100: mstatus = merged(mstatus, v, SSTATUS_BITS); break;
                case 0x104: mie = merged(mie, v, mideleg); break;
                case 0x105: stvec = v & ~3; break;
                case 0x140: sscratch = v; break;
                case 0x141: sepc = v & ~3; break;
                case 0x142: scause = v; break;
                case 0x143: stval = v; break;
                case 0x144: mip = merged(mip, v, mideleg & SIP_BITS); break;
                case 0x180: satp = v & SATP_BITS; break;
                default: break;
            }
        }

        private void writeMachine(int number, int v) {
            switch (number) {
                case 0x300: mstatus = withoutLevelTwo(v & MSTATUS_BITS); break;
                case 0x302: medeleg = v & MEDELEG_BITS; break;
                case 0x303: mideleg = v & MIDELEG_BITS; break;
                case 0x304: mie = v & MIE_BITS; break;
                case 0x305: mtvec = v & ~3; break;
                case 0x340: mscratch = v; break;
                case 0x341: mepc = v & ~3; break;
                case 0x342: mcause = v; break;
                case 0x343: mtval = v; break;
                case 0x344: mip = v & MIP_BITS; break;
                default: break;
            }
        }

        private static int merged(int old, int v, int bits) {
            return (old & ~bits) | (v & bits);
        }

        /** There is no level 2, so MPP cannot hold it. */
        private static int withoutLevelTwo(int status) {
            return (status & MPP) == 2 << MPP_SHIFT ? status & ~MPP : status;
        }

        /** The number of the interrupt that is due, or NONE. */
        int dueInterrupt(int level, int lines) {
            int pending = (mip | lines) & mie;
            int kept = pending & ~mideleg;
            if (kept != 0 && (level < MACHINE || has(MIE))) {
                return firstOf(kept);
            }
            int handedDown = pending & mideleg;
            if (handedDown != 0 && (level < SUPERVISOR || level == SUPERVISOR && has(SIE))) {
                return firstOf(handedDown);
            }
            return NONE;
        }

        private static int firstOf(int pending) {
            for (int i = 0; i < INTERRUPT_ORDER.length; i++) {
                if ((pending >> INTERRUPT_ORDER[i] & 1) != 0) {
                    return INTERRUPT_ORDER[i];
                }
            }
            return NONE;
        }

        boolean handsDownTrap(int cause) {
            return (medeleg >> cause & 1) != 0;
        }

        boolean handsDownInterrupt(int cause) {
            return (mideleg >> cause & 1) != 0;
        }

        /** Notes a trap that S takes; answers where it goes on. */
        int enterSupervisor(int pc, int cause, int tval, int level) {
            sepc = pc;
            scause = cause;
            stval = tval;
            int enabled = has(SIE) ? SPIE : 0;
            int before = level == SUPERVISOR ? SPP : 0;
            mstatus = (mstatus & ~(SIE | SPIE | SPP)) | enabled | before;
            return stvec;
        }

        /** Notes a trap that M takes; answers where it goes on. */
        int enterMachine(int pc, int cause, int tval, int level) {
            mepc = pc;
            mcause = cause;
            mtval = tval;
            int enabled = has(MIE) ? MPIE : 0;
            mstatus = (mstatus & ~(MIE | MPIE | MPP)) | enabled | level << MPP_SHIFT;
            return mtvec;
        }

        /** Undoes a trap that S took; answers the level to go back to. */
        int leaveSupervisor() {
            int to = has(SPP) ? SUPERVISOR : USER;
            int enabled = has(SPIE) ? SIE : 0;
            mstatus = (mstatus & ~(SIE | SPP | MPRV)) | SPIE | enabled;
            return to;
        }

        /** Undoes a trap that M took; answers the level to go back to. */
        int leaveMachine() {
            int to = levelBefore();
            int enabled = has(MPIE) ? MIE : 0;
            int lost = to == MACHINE ? MIE | MPP : MIE | MPP | MPRV;
            mstatus = (mstatus & ~lost) | MPIE | enabled;
            return to;
        }

        /** The level whose rights loads and stores have. */
        int dataLevel(int level) {
            return level == MACHINE && has(MPRV) ? levelBefore() : level;
        }

        boolean hasPages() {
            return satp < 0;
        }

        int rootPage() {
            return satp & 0x3FFFFF;
        }

        private int levelBefore() {
            return (mstatus & MPP) >> MPP_SHIFT;
        }

        private boolean has(int bit) {
            return (mstatus & bit) != 0;
        }
    }

    /** The walk from an address as it is asked for to its place. */
    private static final class Pages {
        private static final int VALID = 1;
        private static final int READ = 2;
        private static final int WRITE = 4;
        private static final int EXECUTE = 8;
        private static final int OF_USER = 16;
        private static final int ACCESSED = 64;
        private static final int DIRTY = 128;
        private static final int KIND = VALID | READ | WRITE | EXECUTE;
        private static final int INNER_NUMBER = 0x3FF;

        /** The place of an address, or a fault. */
        static long placeOf(int address, Access access, int level, Csrs csrs, Memory memory) {
            int second = (address >>> 12) & INNER_NUMBER;
            long at = entryPlace(csrs.rootPage(), address >>> 22);
            if (!memory.isRam(at)) {
                return Fault.of(access.accessFault);
            }
            int entry = memory.wordAt(at);
            int within = second;
            if ((entry & KIND) == VALID) {
                at = entryPlace(entry >>> 10, second);
                if (!memory.isRam(at)) {
                    return Fault.of(access.accessFault);
                }
                entry = memory.wordAt(at);
                within = 0;
            } else if ((entry >>> 10 & INNER_NUMBER) != 0) {
                return Fault.of(access.pageFault);
            }
            if (!isPage(entry) || !admits(entry, access, level, csrs.mstatus)) {
                return Fault.of(access.pageFault);
            }
            long place = ((long) (entry >>> 10) + within << 12) + (address & 0xFFF);
            return place > LOWER_WORD ? Fault.of(access.accessFault) : place;
        }

        private static long entryPlace(int page, int number) {
            return ((long) page << 12) + 4L * number;
        }

        private static boolean isPage(int entry) {
            boolean writeWithoutRead = (entry & (READ | WRITE)) == WRITE;
            return (entry & VALID) != 0 && (entry & (READ | EXECUTE)) != 0 && !writeWithoutRead;
        }

        private static boolean admits(int entry, Access access, int level, int status) {
            boolean ofUser = (entry & OF_USER) != 0;
            if (level == USER && !ofUser) {
                return false;
            }
            boolean maySeeUser = access != Access.FETCH && (status & Csrs.SUM) != 0;
            if (level == SUPERVISOR && ofUser && !maySeeUser) {
                return false;
            }
            int wanted = access.stores ? WRITE | DIRTY | ACCESSED : ACCESSED;
            if ((entry & wanted) != wanted) {
                return false;
            }
            if (access == Access.FETCH) {
                return (entry & EXECUTE) != 0;
            }
            int readable = (status & Csrs.MXR) != 0 ? READ | EXECUTE : READ;
            return access.stores || (entry & readable) != 0;
        }
    }

    /** Arithmetic, apart from any hart. */
    private static final class Alu {
        static boolean below(int a, int b) {
            return (a ^ 0x80000000) < (b ^ 0x80000000);
        }

        static int plain(int f3, int a, int b) {
            switch (f3) {
                case 0: return a + b;
                case 1: return a << (b & 31);
                case 2: return a < b ? 1 : 0;
                case 3: return below(a, b) ? 1 : 0;
                case 4: return a ^ b;
                case 5: return a >>> (b & 31);
                case 6: return a | b;
                default: return a & b;
            }
        }

        static int multiplied(int f3, int a, int b) {
            switch (f3) {
                case 1: return (int) ((long) a * b >> 32);
                case 2: return (int) (a * (b & LOWER_WORD) >> 32);
                case 3: return (int) ((a & LOWER_WORD) * (b & LOWER_WORD) >> 32);
                default: return a * b;
            }
        }

        static int divided(int f3, int a, int b) {
            if (b == 0) {
                return f3 < 6 ? -1 : a;
            }
            switch (f3) {
                case 4: return a / b;
                case 5: return (int) ((a & LOWER_WORD) / (b & LOWER_WORD));
                case 6: return a % b;
                default: return (int) ((a & LOWER_WORD) % (b & LOWER_WORD));
            }
        }

        static boolean branches(int f3, int a, int b) {
            switch (f3) {
                case 0: return a == b;
                case 1: return a != b;
                case 4: return a < b;
                case 5: return a >= b;
                case 6: return below(a, b);
                default: return !below(a, b);
            }
        }

        static int changed(int kind, int old, int b) {
            switch (kind) {
                case 0: return old + b;
                case 4: return old ^ b;
                case 8: return old | b;
                case 0xC: return old & b;
                case 0x10: return Math.min(old, b);
                case 0x14: return Math.max(old, b);
                case 0x18: return below(old, b) ? old : b;
                case 0x1C: return below(old, b) ? b : old;
                default: return b;
            }
        }
    }

    /** The fields of an instruction. */
    private static final class Field {
        static int rd(int word) {
            return word >>> 7 & 31;
        }

        static int rs1(int word) {
            return word >>> 15 & 31;
        }

        static int rs2(int word) {
            return word >>> 20 & 31;
        }

        static int f3(int word) {
            return word >>> 12 & 7;
        }

        static int f7(int word) {
            return word >>> 25;
        }

        static int immediate(int word) {
            return word >> 20;
        }

        static int upper(int word) {
            return word & 0xFFFFF000;
        }

        static int storeOffset(int word) {
            return word >> 25 << 5 | rd(word);
        }

        static int jumpOffset(int word) {
            return word >> 31 << 20 | (word >>> 21 & 0x3FF) << 1 | (word >>> 20 & 1) << 11 | word & 0xFF000;
        }

        static int branchOffset(int word) {
            return word >> 31 << 12 | (word >>> 25 & 0x3F) << 5 | (word >>> 8 & 0xF) << 1 | (word >>> 7 & 1) << 11;
        }
    }

    /** One processor. Its methods for instructions answer what a step answers. */
    private static final class Hart {
        private static final int START = 0x80000000;
        private static final int INTERRUPT = 0x80000000;
        private static final int INTERRUPT_ANSWER = 64;
        private static final int CLAIMING = 2;
        private static final int CLAIMED_STORE = 3;

        final int id;
        final int[] x = new int[32];
        final Csrs csrs;
        int pc = START;
        int level = MACHINE;
        private int trapValue = 0;

        Hart(int id) {
            this.id = id;
            csrs = new Csrs(id);
        }

        void restart() {
            for (int i = 0; i < x.length; i++) {
                x[i] = 0;
            }
            csrs.restart();
            pc = START;
            level = MACHINE;
        }

        int run(Memory memory) {
            int due = csrs.dueInterrupt(level, memory.clint.lines(id));
            if (due != NONE) {
                take(INTERRUPT | due, 0, csrs.handsDownInterrupt(due));
                return INTERRUPT_ANSWER + due;
            }
            long place = locate(pc, 4, Access.FETCH, memory);
            int answer = place < 0 ? fault(place, pc) : execute(memory.wordAt(place), memory);
            if (answer != DONE) {
                int cause = answer - 1;
                take(cause, trapValue, level < MACHINE && csrs.handsDownTrap(cause));
            }
            return answer;
        }

        private int execute(int word, Memory memory) {
            switch (word & 0x7F) {
                case 0x03: return load(word, memory);
                case 0x0F: return goOn();
                case 0x13: return computeWithImmediate(word);
                case 0x17: return finish(word, pc + Field.upper(word));
                case 0x23: return store(word, memory);
                case 0x2F: return changeAtOnce(word, memory);
                case 0x33: return compute(word);
                case 0x37: return finish(word, Field.upper(word));
                case 0x63: return branch(word);
                case 0x67: return jumpByRegister(word);
                case 0x6F: return jump(word, pc + Field.jumpOffset(word));
                case 0x73: return Field.f3(word) == 0 ? callSystem(word) : exchange(word, memory);
                default: return illegal(word);
            }
        }

        private int goOn() {
            pc += 4;
            return DONE;
        }

        private int finish(int word, int value) {
            write(Field.rd(word), value);
            return goOn();
        }

        private void write(int i, int value) {
            if (i != 0) {
                x[i] = value;
            }
        }

        /** Only says that there is a trap: run takes it, when the instruction can change nothing any more. */
        private int trap(int cause, int tval) {
            trapValue = tval;
            return 1 + cause;
        }

        private int illegal(int word) {
            return trap(2, word);
        }

        private int fault(long place, int address) {
            return trap(Fault.causeOf(place), address);
        }

        private void take(int cause, int tval, boolean handedDown) {
            if (handedDown) {
                pc = csrs.enterSupervisor(pc, cause, tval, level);
                level = SUPERVISOR;
            } else {
                pc = csrs.enterMachine(pc, cause, tval, level);
                level = MACHINE;
            }
        }

        /** The place of an address that may be touched so, or a fault. */
        private long locate(int address, int size, Access access, Memory memory) {
            if ((address & size - 1) != 0) {
                return Fault.of(access.misaligned);
            }
            int rights = access == Access.FETCH ? level : csrs.dataLevel(level);
            long place = address & LOWER_WORD;
            if (rights < MACHINE && csrs.hasPages()) {
                place = Pages.placeOf(address, access, rights, csrs, memory);
            }
            if (place < 0 || memory.allows(place, size, access)) {
                return place;
            }
            return Fault.of(access.accessFault);
        }

        private int jump(int word, int target) {
            if ((target & 3) != 0) {
                return trap(0, target);
            }
            write(Field.rd(word), pc + 4);
            pc = target;
            return DONE;
        }

        private int jumpByRegister(int word) {
            if (Field.f3(word) != 0) {
                return illegal(word);
            }
            return jump(word, x[Field.rs1(word)] + Field.immediate(word) & ~1);
        }

        private int branch(int word) {
            int f3 = Field.f3(word);
            if (f3 == 2 || f3 == 3) {
                return illegal(word);
            }
            if (!Alu.branches(f3, x[Field.rs1(word)], x[Field.rs2(word)])) {
                return goOn();
            }
            int target = pc + Field.branchOffset(word);
            if ((target & 3) != 0) {
                return trap(0, target);
            }
            pc = target;
            return DONE;
        }

        private int load(int word, Memory memory) {
            int f3 = Field.f3(word);
            if (f3 == 3 || f3 > 5) {
                return illegal(word);
            }
            int size = 1 << (f3 & 3);
            int address = x[Field.rs1(word)] + Field.immediate(word);
            long place = locate(address, size, Access.LOAD, memory);
            if (place < 0) {
                return fault(place, address);
            }
            int value = memory.load(place, size);
            if (f3 == 0) {
                value = (byte) value;
            } else if (f3 == 1) {
                value = (short) value;
            }
            return finish(word, value);
        }

        private int store(int word, Memory memory) {
            int f3 = Field.f3(word);
            if (f3 > 2) {
                return illegal(word);
            }
            int size = 1 << f3;
            int address = x[Field.rs1(word)] + Field.storeOffset(word);
            long place = locate(address, size, Access.STORE, memory);
            if (place < 0) {
                return fault(place, address);
            }
            memory.store(place, size, x[Field.rs2(word)]);
            return goOn();
        }

        private int computeWithImmediate(int word) {
            int f3 = Field.f3(word);
            int f7 = Field.f7(word);
            int a = x[Field.rs1(word)];
            if (f3 == 5 && f7 == 0x20) {
                return finish(word, a >> Field.rs2(word));
            }
            if ((f3 == 1 || f3 == 5) && f7 != 0) {
                return illegal(word);
            }
            return finish(word, Alu.plain(f3, a, Field.immediate(word)));
        }

        private int compute(int word) {
            int f3 = Field.f3(word);
            int f7 = Field.f7(word);
            int a = x[Field.rs1(word)];
            int b = x[Field.rs2(word)];
            if (f7 == 0) {
                return finish(word, Alu.plain(f3, a, b));
            }
            if (f7 == 1) {
                return finish(word, f3 < 4 ? Alu.multiplied(f3, a, b) : Alu.divided(f3, a, b));
            }
            if (f7 == 0x20 && f3 == 0) {
                return finish(word, a - b);
            }
            if (f7 == 0x20 && f3 == 5) {
                return finish(word, a >> (b & 31));
            }
            return illegal(word);
        }

        private int changeAtOnce(int word, Memory memory) {
            int kind = word >>> 27;
            if (Field.f3(word) != 2 || !isChange(kind, Field.rs2(word))) {
                return illegal(word);
            }
            int address = x[Field.rs1(word)];
            int operand = x[Field.rs2(word)];
            long place = locate(address, 4, kind == CLAIMING ? Access.CLAIM : Access.CHANGE, memory);
            if (place < 0) {
                return fault(place, address);
            }
            if (kind == CLAIMED_STORE) {
                return finish(word, memory.storeIfClaimed(id, place, operand) ? 0 : 1);
            }
            int old = memory.load(place, 4);
            if (kind == CLAIMING) {
                memory.claim(id, place);
            } else {
                memory.store(place, 4, Alu.changed(kind, old, operand));
            }
            return finish(word, old);
        }

        private static boolean isChange(int kind, int rs2) {
            if (kind == CLAIMING) {
                return rs2 == 0;
            }
            return kind < 4 || (kind & 3) == 0;
        }

        private int callSystem(int word) {
            switch (word) {
                case 0x00000073: return trap(8 + level, 0);
                case 0x00100073: return trap(3, pc);
                case 0x10500073: return goOn();
                case 0x30200073: return level == MACHINE ? returnFromMachine() : illegal(word);
                case 0x10200073: return level >= SUPERVISOR ? returnFromSupervisor() : illegal(word);
                default: break;
            }
            boolean isFence = Field.f7(word) == 9 && Field.rd(word) == 0;
            return isFence && level >= SUPERVISOR ? goOn() : illegal(word);
        }

        private int returnFromMachine() {
            level = csrs.leaveMachine();
            pc = csrs.mepc;
            return DONE;
        }

        private int returnFromSupervisor() {
            level = csrs.leaveSupervisor();
            pc = csrs.sepc;
            return DONE;
        }

        private int exchange(int word, Memory memory) {
            int f3 = Field.f3(word);
            int source = Field.rs1(word);
            int number = word >>> 20;
            int way = f3 & 3;
            boolean writes = way == 1 || source != 0;
            if (way == 0 || !Csrs.isAllowed(number, level, writes)) {
                return illegal(word);
            }
            int a = f3 > 4 ? source : x[source];
            int old = csrs.read(number, memory.clint.lines(id));
            if (writes) {
                csrs.write(number, mixed(way, old, a));
            }
            return finish(word, old);
        }

        private static int mixed(int way, int old, int a) {
            switch (way) {
                case 1: return a;
                case 2: return old | a;
                default: return old & ~a;
            }
        }
    }
}
