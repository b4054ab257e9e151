import java.util.Random;

/** A program that meets most of what the document speaks of, the same for the same seed. */
final class RandomProgram {
    private static final int MAIN = 4096;
    private static final int SET_UP = 16384;
    private static final int OTHER_MAIN = 12288;
    private static final int[] CALCULATIONS = {
        0, 1, 2, 3, 4, 5, 6, 7, 10, 11, 12, 13, 14, 15, 16, 17, 34, 35, 41, 42, 43, 44, 45, 46, 47,
        48, 49, 50, 55,
    };
    private static final int[] SLOW = {8, 8, 57, 57, 36, 36, 38, 39, 40, 41, 9, 37};
    private static final int[] ACCESSES = {26, 27, 28, 29, 51, 52, 53, 54};
    private static final int[] EDGES = {
        0, 1, -1, 2, Integer.MIN_VALUE, Integer.MAX_VALUE, 0x7FFF, 0x8000, 0xFFFF, 0x10000, 255, 128,
    };

    private final Random random;
    private final TwinIssue real;
    private final Paced literal;
    private final int sets;
    private final boolean maps;
    private int at;

    RandomProgram(long seed, int sets, TwinIssue real, Paced literal) {
        // Small seeds that follow one another begin alike, so they are spread first.
        this.random = new Random(seed * 0x9E3779B97F4A7C15L + 12345);
        this.real = real;
        this.literal = literal;
        this.sets = literal.now.sets;
        this.maps = random.nextInt(2) == 0;
    }

    void lay() {
        layRegisters();
        layLines();
        layWayBack();
        layHandlers();
        layMain(MAIN);
        layMain(OTHER_MAIN);
        laySetUp();
        for (int k = 0; k < 40; k++) {
            put(32768 + 4 * random.nextInt(8192), value());
        }
    }

    private void layRegisters() {
        for (int register = 1; register < 32; register++) {
            set(register, value());
        }
        for (int register = 16; register < 20; register++) {
            set(register, 32768 + 4 * random.nextInt(4096) + (random.nextInt(4) == 0 ? 2 : 0));
        }
        set(20, 4096 + 4 * random.nextInt(60));
    }

    private void layLines() {
        int count = 0;
        for (int k = random.nextInt(33); k > 0; k--) {
            int lines = random.nextInt(3) == 0 ? 0 : 1 << random.nextInt(32) | random.nextInt(8);
            check("linesFrom", real.linesFrom(count, lines));
            literal.linesFrom(count, lines);
            count += 1 + random.nextInt(40);
        }
    }

    private void layHandlers() {
        for (int exception = 2; exception < 15; exception++) {
            at = 256 * exception;
            for (int k = random.nextInt(3); k > 0; k--) {
                word(plain());
            }
            if (exception == 5) {
                layTimer();
            }
            if (exception == 8) {
                layLineHandler();
            }
            if (random.nextInt(8) == 0) {
                word(Code.imm(Code.HIGH, 24, 0, 0));
                word(Code.imm(Code.OR_U, 24, 24, random.nextInt(1024) | random.nextInt(2)));
                word(Code.write(2, 24));
            }
            if (exception != 5 && exception != 8 && exception != 12) {
                word(Code.read(25, 1));
                word(Code.imm(Code.ADD_I, 25, 25, random.nextInt(4) == 0 ? 8 : 4));
                word(Code.write(1, 25));
            }
            if (random.nextInt(6) == 0) {
                word(Code.imm(Code.ADD_I, 25, 0, MAIN));
                word(Code.write(1, 25));
            }
            word(Code.back());
        }
    }

    private void layLineHandler() {
        word(Code.imm(Code.ADD_I, 24, 0, -1));
        word(Code.write(7, 24));
        word(Code.read(24, 7));
        if (random.nextInt(4) != 0) {
            word(Code.imm(Code.ADD_I, 24, 0, random.nextInt(4)));
            word(Code.write(6, 24));
        }
        if (random.nextInt(2) == 0) {
            word(Code.read(24, 2));
            word(Code.imm(11, 24, 24, ~4));
            word(Code.write(2, 24));
        }
    }

    /** Whatever has lost its way comes back to the main part. */
    private void layWayBack() {
        for (at = 0; at < SET_UP; ) {
            word(Code.jump(Code.JUMP, (MAIN - at) / 4));
            word(Code.nothing());
        }
    }

    private void layMain(int place) {
        at = place;
        int words = 30 + random.nextInt(120);
        for (int k = 0; k < words; k++) {
            word(any());
        }
        word(Code.jump(Code.JUMP, (place - at) / 4));
        word(plain());
        for (int k = 0; k < 40; k++) {
            word(any());
        }
    }

    private void laySetUp() {
        at = 256;
        word(Code.jump(Code.JUMP, (SET_UP - 256) / 4));
        word(Code.nothing());
        at = SET_UP;
        if (maps) {
            layMaps();
        }
        if (random.nextInt(2) == 0) {
            layTimer();
        }
        layBits(9, random.nextInt(2) == 0 ? 0 : random.nextInt(65536));
        layBits(6, random.nextInt(3) == 0 ? 0 : random.nextInt(65536));
        int sr = random.nextInt(1024) & (maps ? -1 : ~24) | (random.nextInt(3) == 0 ? 0 : 1);
        layBits(2, sr & (random.nextInt(3) == 0 ? -1 : ~512));
        layBits(1, MAIN);
        word(Code.back());
    }

    private void layBits(int special, int low) {
        word(Code.imm(Code.OR_U, 24, 0, low));
        word(Code.write(special, 24));
    }

    /** Most pages have a place, and most places all bits. */
    private void layMaps() {
        for (int page = 3; page < 8; page++) {
            int place = page == 4 && random.nextInt(2) == 0 ? OTHER_MAIN / 1024 : page;
            place = random.nextInt(20) == 0 ? random.nextInt(80) : place;
            layMap(1024 + page % sets, page * 1024 + holds());
            layMap(1152 + page % sets, place * 1024 + bits());
        }
        for (int page = 31; page < 49; page++) {
            int place = random.nextInt(12) == 0 ? random.nextInt(80) : 32 + random.nextInt(32);
            layMap(1280 + page % sets, page * 1024 + holds());
            layMap(1408 + page % sets, place * 1024 + bits());
        }
    }

    private int holds() {
        return random.nextInt(20) == 0 ? 0 : 1;
    }

    private int bits() {
        return random.nextInt(6) == 0 ? random.nextInt(16) : 15;
    }

    private void layMap(int special, int value) {
        word(Code.imm(Code.HIGH, 24, 0, value >>> 16));
        word(Code.imm(Code.OR_U, 24, 24, value));
        word(Code.write(special, 24));
    }

    private void layTimer() {
        int mode = random.nextInt(4);
        int pending = random.nextInt(8) == 0 ? 1 : 0;
        word(Code.imm(Code.HIGH, 24, 0, mode << 13 | pending << 12));
        word(Code.imm(Code.OR_U, 24, 24, 1 + random.nextInt(60)));
        word(Code.write(5, 24));
        if (random.nextInt(4) == 0) {
            word(Code.write(4, 0));
        }
    }

    private int any() {
        int kind = random.nextInt(100);
        if (kind < 40) {
            return plain();
        }
        if (kind < 55) {
            return slow();
        }
        if (kind < 72) {
            return access();
        }
        if (kind < 80) {
            return compare();
        }
        if (kind < 92) {
            return branch();
        }
        if (kind < 97) {
            return special();
        }
        return random.nextInt(3) == 0 ? random.nextInt() : rare();
    }

    private int plain() {
        int op = CALCULATIONS[random.nextInt(CALCULATIONS.length)];
        return Code.abd(op, low(), low(), low()) | random.nextInt(2048);
    }

    private int slow() {
        int op = SLOW[random.nextInt(SLOW.length)];
        return Code.abd(op, low(), low(), low()) | random.nextInt(2048);
    }

    private int access() {
        int op = ACCESSES[random.nextInt(ACCESSES.length)];
        int step = random.nextInt(12) == 0 ? 1 : 4;
        int base = random.nextInt(40) == 0 ? low() : 16 + random.nextInt(4);
        return Code.imm(op, low(), base, step * (random.nextInt(400) - 200));
    }

    private int compare() {
        int d = random.nextInt(40) == 0 ? random.nextInt(32) : random.nextInt(10);
        return Code.abd(18 + random.nextInt(2), d, low(), low()) | random.nextInt(2048);
    }

    private int branch() {
        int op = 20 + random.nextInt(6);
        if (op >= 24) {
            return Code.abd(op, 0, 0, random.nextInt(6) == 0 ? 31 : 20);
        }
        boolean conditional = op >= 22;
        int j = random.nextInt(12) - (conditional && random.nextInt(2) == 0 ? 10 : 2);
        return Code.jump(op, j);
    }

    private int special() {
        int number = random.nextInt(14);
        if (random.nextInt(3) > 0) {
            return Code.read(low(), random.nextInt(4) == 0 ? 1024 + random.nextInt(600) : number);
        }
        if (number < 3 || number == 5 && random.nextInt(2) == 0) {
            return Code.read(low(), number);
        }
        return Code.write(number, low());
    }

    private int rare() {
        int[] ops = {32, 33, 56, 32, 55, 58, 63};
        return Code.abd(ops[random.nextInt(ops.length)], low(), low(), low());
    }

    private int low() {
        return random.nextInt(3) == 0 ? random.nextInt(4) : random.nextInt(10);
    }

    private int value() {
        switch (random.nextInt(3)) {
            case 0:
                return EDGES[random.nextInt(EDGES.length)];
            case 1:
                return random.nextInt(200) - 100;
            default:
                return random.nextInt();
        }
    }

    private void word(int word) {
        put(at, word);
        at += 4;
    }

    private void put(int address, int word) {
        check("giveWord", real.giveWord(address & ~3 & 65535, word));
        literal.giveWord(address & ~3 & 65535, word);
    }

    private void set(int register, int value) {
        check("setRegister", real.setRegister(register, value));
        literal.setRegister(register, value);
    }

    private static void check(String call, boolean answer) {
        Check.due(call, answer, true);
    }
}
