/** Words of instructions, so that a test can be read. */
final class Asm {
    static final int ECALL = 0x00000073;
    static final int EBREAK = 0x00100073;
    static final int WFI = 0x10500073;
    static final int MRET = 0x30200073;
    static final int SRET = 0x10200073;
    static final int SFENCE = 0x12000073;
    static final int NOP = 0x00000013;

    private Asm() {
    }

    static int r(int op, int f7, int f3, int rd, int rs1, int rs2) {
        return f7 << 25 | rs2 << 20 | rs1 << 15 | f3 << 12 | rd << 7 | op;
    }

    static int i(int op, int f3, int rd, int rs1, int immediate) {
        return immediate << 20 | rs1 << 15 | f3 << 12 | rd << 7 | op;
    }

    static int op(int f7, int f3, int rd, int rs1, int rs2) {
        return r(0x33, f7, f3, rd, rs1, rs2);
    }

    static int opImmediate(int f3, int rd, int rs1, int immediate) {
        return i(0x13, f3, rd, rs1, immediate);
    }

    static int load(int f3, int rd, int rs1, int offset) {
        return i(0x03, f3, rd, rs1, offset);
    }

    static int store(int f3, int rs2, int rs1, int offset) {
        return r(0x23, offset >> 5 & 0x7F, f3, offset & 31, rs1, rs2);
    }

    static int lui(int rd, int upper) {
        return upper & 0xFFFFF000 | rd << 7 | 0x37;
    }

    static int auipc(int rd, int upper) {
        return upper & 0xFFFFF000 | rd << 7 | 0x17;
    }

    static int jal(int rd, int offset) {
        return (offset >> 20 & 1) << 31 | (offset >> 1 & 0x3FF) << 21 | (offset >> 11 & 1) << 20
            | (offset >> 12 & 0xFF) << 12 | rd << 7 | 0x6F;
    }

    static int jalr(int rd, int rs1, int offset) {
        return i(0x67, 0, rd, rs1, offset);
    }

    static int branch(int f3, int rs1, int rs2, int offset) {
        return (offset >> 12 & 1) << 31 | (offset >> 5 & 0x3F) << 25 | rs2 << 20 | rs1 << 15 | f3 << 12
            | (offset >> 1 & 0xF) << 8 | (offset >> 11 & 1) << 7 | 0x63;
    }

    static int atomic(int kind, int rd, int rs1, int rs2) {
        return r(0x2F, kind << 2, 2, rd, rs1, rs2);
    }

    static int lr(int rd, int rs1) {
        return atomic(2, rd, rs1, 0);
    }

    static int sc(int rd, int rs1, int rs2) {
        return atomic(3, rd, rs1, rs2);
    }

    static int addi(int rd, int rs1, int immediate) {
        return opImmediate(0, rd, rs1, immediate);
    }

    static int csr(int f3, int rd, int source, int number) {
        return i(0x73, f3, rd, source, number);
    }
}
