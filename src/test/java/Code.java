/** Makes the words of instructions. */
final class Code {
    static final int ADD = 0;
    static final int SUB = 1;
    static final int MULTIPLY = 8;
    static final int DIVIDE = 9;
    static final int ADD_I = 10;
    static final int OR_U = 12;
    static final int HIGH = 14;
    static final int COMPARE = 18;
    static final int COMPARE_I = 19;
    static final int JUMP = 20;
    static final int CALL = 21;
    static final int JUMP_IF = 22;
    static final int JUMP_IF_NOT = 23;
    static final int JUMP_TO = 24;
    static final int CALL_TO = 25;
    static final int LOAD = 26;
    static final int STORE = 28;
    static final int READ = 30;
    static final int WRITE = 31;
    static final int NOTHING = 55;

    private Code() {
    }

    /** OP, D, A, B. */
    static int abd(int op, int d, int a, int b) {
        return op << 26 | d << 21 | a << 16 | b << 11;
    }

    /** OP, D, A and the lowest 16 bits. */
    static int imm(int op, int d, int a, int low) {
        return op << 26 | d << 21 | a << 16 | (low & 0xFFFF);
    }

    /** OP and J. */
    static int jump(int op, int j) {
        return op << 26 | (j & 0x3FFFFFF);
    }

    static int read(int d, int special) {
        return imm(READ, d, 0, special);
    }

    static int write(int special, int a) {
        return imm(WRITE, 0, a, special);
    }

    static int sys() {
        return jump(32, 0);
    }

    static int back() {
        return jump(33, 0);
    }

    static int trap() {
        return jump(56, 0);
    }

    static int nothing() {
        return jump(NOTHING, 0);
    }
}
