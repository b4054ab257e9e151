/** What each instruction does, by its number (promise 6, seen by 7, 8, 9, 11, 12). */
public final class InstructionsTest {
    private static final int LEAST = Integer.MIN_VALUE;
    private static final int MOST = Integer.MAX_VALUE;
    private static final int FLAG = 32;
    private static final int CARRY = 128;
    private static final int OVERFLOW = 256;
    private static final int RANGE = 512;
    private static final int KEEP = FLAG | CARRY | OVERFLOW;

    private InstructionsTest() {
    }

    public static void main(String[] args) {
        sums();
        logic();
        shifts();
        products();
        quotients();
        sumOfProducts();
        parts();
        compares();
        range();
        loads();
        stores();
        specials();
        registerZero();
        illegal();
        Check.end("InstructionsTest");
    }

    private static void three(int op, int a, int b, int before, int due, int behind) {
        OneWord.of(op, a, b).gives(before, due, behind);
    }

    private static void low(int op, int a, int low, int before, int due, int behind) {
        OneWord.withLow(op, a, low).gives(before, due, behind);
    }

    private static void sums() {
        three(0, 5, 7, 0, 12, 0);
        three(0, 5, 7, KEEP, 12, FLAG);
        three(0, -1, 1, 0, 0, CARRY);
        three(0, MOST, 1, CARRY, LEAST, OVERFLOW);
        three(0, LEAST, LEAST, FLAG, 0, KEEP);
        three(0, -1, -1, 0, -2, CARRY);
        three(0, -1, 0, CARRY, -1, 0);
        three(0, -8, 7, CARRY, -1, 0);
        three(1, 5, 7, 0, -2, CARRY);
        three(1, 7, 5, KEEP, 2, FLAG);
        three(1, LEAST, 1, CARRY, MOST, OVERFLOW);
        three(1, MOST, -1, 0, LEAST, CARRY | OVERFLOW);
        three(1, 3, 3, CARRY, 0, 0);
        low(10, 5, 7, KEEP, 12, FLAG);
        low(10, 5, -7, 0, -2, 0);
        low(10, 7, -7, 0, 0, CARRY);
        low(10, 7, -1, 0, 6, CARRY);
        low(10, 0, -1, CARRY, -1, 0);
        low(35, 0, -2, CARRY, -1, 0);
        three(34, -2, 0, CARRY, -1, 0);
        low(10, 0, 0x8000, CARRY, -32768, 0);
        low(10, LEAST, -1, 0, MOST, CARRY | OVERFLOW);
        low(10, MOST, 1, CARRY, LEAST, OVERFLOW);
        three(34, 5, 7, 0, 12, 0);
        three(34, 5, 7, CARRY, 13, 0);
        three(34, -1, 0, CARRY, 0, CARRY);
        three(34, -1, -1, CARRY, -1, CARRY);
        three(34, MOST, 0, CARRY, LEAST, OVERFLOW);
        three(34, LEAST, -1, CARRY, LEAST, CARRY);
        three(34, LEAST, -1, 0, MOST, CARRY | OVERFLOW);
        three(34, MOST, LEAST, CARRY | OVERFLOW | FLAG, 0, CARRY | FLAG);
        low(35, 5, 7, CARRY, 13, 0);
        low(35, 5, -7, 0, -2, 0);
        low(35, 5, -6, CARRY, 0, CARRY);
        low(35, 0, -1, CARRY, 0, CARRY);
        low(35, MOST, 0, CARRY, LEAST, OVERFLOW);
        low(35, LEAST, -1, CARRY, LEAST, CARRY);
        low(35, LEAST, -1, 0, MOST, CARRY | OVERFLOW);
    }

    private static void logic() {
        three(2, 0xFF00FF00, 0x0FF00FF0, KEEP, 0x0F000F00, KEEP);
        three(3, 0xFF00FF00, 0x0FF00FF0, 0, 0xFFF0FFF0, 0);
        three(4, 0xFF00FF00, 0x0FF00FF0, KEEP, 0xF0F0F0F0, KEEP);
        low(11, -1, 0x8001, KEEP, 0x8001, KEEP);
        low(12, 0x70000001, 0x8002, 0, 0x70008003, 0);
        low(13, -1, 0xFFFF, KEEP, 0xFFFF0000, KEEP);
        low(14, 77, 0x8001, KEEP, 0x80010000, KEEP);
        three(46, 5, 7, KEEP, 5, KEEP);
        three(46, 5, 7, CARRY, 7, CARRY);
    }

    private static void shifts() {
        three(5, 0x80000001, 4, KEEP, 0x10, KEEP);
        three(5, 3, 33, 0, 6, 0);
        three(5, 3, 32, 0, 3, 0);
        three(5, 3, -1, 0, LEAST, 0);
        three(6, LEAST, 31, KEEP, 1, KEEP);
        three(6, -1, 36, 0, 0x0FFFFFFF, 0);
        three(7, LEAST, 31, KEEP, -1, KEEP);
        three(7, -64, 34, 0, -16, 0);
        low(15, 3, 33, KEEP, 6, KEEP);
        low(15, 3, 0x7FFF, 0, LEAST, 0);
        low(16, -1, 0xFFE4, KEEP, 0x0FFFFFFF, KEEP);
        low(17, -64, 0x8002, KEEP, -16, KEEP);
        three(49, 0x12345678, 8, KEEP, 0x78123456, KEEP);
        three(49, 0x12345678, 32, 0, 0x12345678, 0);
        three(49, 1, 33, 0, LEAST, 0);
        low(50, 0x12345678, 0xFFE4, KEEP, 0x81234567, KEEP);
        low(50, 0x12345678, 32, 0, 0x12345678, 0);
    }

    private static void products() {
        three(8, -5, 7, KEEP, -35, FLAG | CARRY);
        three(8, 65536, 65536, 0, 0, OVERFLOW);
        three(8, 65536, 32768, 0, LEAST, OVERFLOW);
        three(8, -65536, 32768, OVERFLOW, LEAST, 0);
        three(8, LEAST, -1, 0, LEAST, OVERFLOW);
        low(57, -5, -7, KEEP, 35, FLAG | CARRY);
        low(57, 65536, 0x7FFF, OVERFLOW, 0x7FFF0000, 0);
        low(57, 131072, 0x7FFF, 0, 0xFFFE0000, OVERFLOW);
        low(57, LEAST, -1, CARRY, LEAST, CARRY | OVERFLOW);
        three(36, -1, -1, 0, 1, CARRY);
        three(36, 65536, 65536, OVERFLOW, 0, CARRY | OVERFLOW);
        three(36, -1, 1, KEEP, -1, FLAG | OVERFLOW);
        three(36, 65535, 65537, CARRY, -1, 0);
    }

    private static void quotients() {
        three(9, 7, 2, KEEP, 3, FLAG | CARRY);
        three(9, -7, 2, 0, -3, 0);
        three(9, 7, -2, 0, -3, 0);
        three(9, 7, 0, CARRY, 0, CARRY | OVERFLOW);
        three(9, LEAST, -1, 0, LEAST, OVERFLOW);
        three(9, LEAST, 1, OVERFLOW, LEAST, 0);
        three(37, -1, 2, KEEP, MOST, FLAG | OVERFLOW);
        three(37, LEAST, -1, 0, 0, 0);
        three(37, -1, -1, 0, 1, 0);
        three(37, -1, 0, OVERFLOW, 0, CARRY | OVERFLOW);
    }

    private static void sumOfProducts() {
        Bench bench = new Bench();
        bench.register(1, 65536).register(2, -65537).register(3, 5);
        bench.put(Code.abd(38, 9, 1, 1), Code.abd(38, 0, 1, 2), Code.imm(39, 0, 3, -7));
        bench.put(Code.abd(40, 0, 2, 3)).run(30);
        long due = 65536L * 65536 - 65536L * 65537 - 35 + 65537L * 5;
        bench.special("sum", 10, (int) (due >> 32));
        bench.special("sum", 11, (int) due);
        bench.register("sum writes no register", 9, 0);
        Check.due("sum: no register", bench.x.eventOf(0, 2), -1);
        Check.due("sum: no value", bench.x.valueOf(0, 1), 0);

        Bench low = new Bench();
        low.special(10, 1, 0x80000000).special(11, 2, 0xFFFFFFFE).register(3, 1).register(4, -3);
        low.put(Code.abd(40, 0, 3, 4), Code.read(5, 10), Code.read(6, 11), Code.abd(41, 7, 0, 0));
        low.run(60);
        low.register("sum goes over", 5, 0x80000001);
        low.register("sum goes over", 6, 1);
        low.register("sum is taken", 7, 1);
        low.special("sum is 0", 10, 0);
        low.special("sum is 0", 11, 0);
        Check.due("41 writes", low.x.eventOf(5, 2), 7);
        Bench lost = new Bench();
        lost.special(11, 2, 7).put(Code.abd(41, 0, 0, 0)).run(30);
        lost.special("41 to register 0", 11, 0);
        Check.due("41 to register 0", lost.x.eventOf(1, 2), -1);
        Bench low2 = new Bench();
        low2.special(11, 1, 5).special(10, 2, 6).special(11, 3, -7).run(30);
        low2.special("the high word alone", 10, 6);
        low2.special("the low word alone", 11, -7);
        Bench high = new Bench();
        high.special(11, 1, 5).special(10, 2, -6).run(30);
        high.special("the high word alone", 10, -6);
        high.special("the low word stays", 11, 5);
        Bench zero = new Bench();
        zero.special(10, 1, -1).special(11, 2, -1).register(3, 1);
        zero.put(Code.abd(38, 0, 3, 3)).run(30);
        zero.special("modulo 2^64", 10, 0);
        zero.special("modulo 2^64", 11, 0);
    }

    private static void parts() {
        low(42, 0x12348765, 0, KEEP, 0xFFFF8765, KEEP);
        low(42, 0xFFFF7654, 0, 0, 0x7654, 0);
        low(43, 0x12348780, 0, KEEP, -128, KEEP);
        low(43, 0xFFFFFF7F, 0, 0, 127, 0);
        low(44, 0x12348765, 0, KEEP, 0x8765, KEEP);
        low(45, 0x12348785, 0, KEEP, 0x85, KEEP);
        low(47, 0, 0, KEEP, 0, KEEP);
        low(47, 1, 0, 0, 1, 0);
        low(47, LEAST, 0, 0, 32, 0);
        low(47, 0x50, 0, 0, 5, 0);
        low(48, 0, 0, KEEP, 0, KEEP);
        low(48, 1, 0, 0, 1, 0);
        low(48, -1, 0, 0, 32, 0);
        low(48, 0x50, 0, 0, 7, 0);
    }

    private static void compares() {
        int[][] pairs = {{5, 5}, {5, 7}, {7, 5}, {-1, 1}, {1, -1}, {LEAST, MOST}, {-2, -2}};
        for (int[] pair : pairs) {
            for (int number = 0; number < 10; number++) {
                boolean due = holds(number, pair[0], pair[1]);
                compare(Code.abd(18, number, 1, 2), pair, due);
                if (pair[1] == (short) pair[1]) {
                    compare(Code.imm(19, number, 1, pair[1]), pair, due);
                }
            }
        }
    }

    private static boolean holds(int number, int a, int b) {
        long x = number < 6 ? a & 0xFFFFFFFFL : a;
        long y = number < 6 ? b & 0xFFFFFFFFL : b;
        boolean[] all = {x == y, x != y, x > y, x >= y, x < y, x <= y, x > y, x >= y, x < y, x <= y};
        return all[number];
    }

    private static void compare(int word, int[] pair, boolean due) {
        for (int before : new int[] {0, FLAG | CARRY | OVERFLOW}) {
            Bench bench = new Bench();
            bench.special(0, 30, before | 1).register(1, pair[0]).register(2, pair[1]);
            bench.put(word).halts().run(30);
            String name = "compare " + Integer.toHexString(word) + " " + pair[0] + " " + pair[1];
            bench.special(name, 0, before & ~FLAG | (due ? FLAG : 0) | 1);
            Check.due(name + ": is one", bench.x.eventOf(1, 3), 1);
            Check.due(name + ": no register", bench.x.eventOf(1, 2), -1);
            Check.due(name + ": the one before is none", bench.x.eventOf(0, 3), 0);
        }
    }

    /** With RANGE ON an OVERFLOW is exception 11 and nothing is done. */
    private static void range() {
        int[][] over = {
            {0, MOST, 1}, {1, LEAST, 1}, {8, 65536, 65536}, {9, 7, 0}, {9, LEAST, -1},
            {34, MOST, 1},
        };
        for (int[] one : over) {
            overflows(Code.abd(one[0], 3, 1, 2), one[1], one[2], true);
        }
        overflows(Code.imm(10, 3, 1, 1), MOST, 0, true);
        overflows(Code.imm(35, 3, 1, -1), LEAST, 0, true);
        overflows(Code.imm(57, 3, 1, 2), MOST, 0, true);
        overflows(Code.abd(10, 0, 1, 0) | 1, MOST, 0, true);
        overflows(Code.abd(0, 3, 1, 2), -1, 1, false);
        overflows(Code.abd(36, 3, 1, 2), -1, -1, false);
        overflows(Code.abd(37, 3, 1, 2), -1, 0, false);
        overflows(Code.abd(2, 3, 1, 2), -1, 0, false);
        overflows(Code.abd(38, 3, 1, 2), MOST, MOST, false);
    }

    private static void overflows(int word, int a, int b, boolean due) {
        Bench bench = new Bench();
        bench.special(0, 30, RANGE | FLAG | OVERFLOW | 1);
        bench.register(1, a).register(2, b).register(3, 99).put(word).halts().run(60);
        String name = "range " + Integer.toHexString(word);
        bench.event(name, 1, 260, due ? 11 : 0);
        if (due) {
            bench.register(name, 3, 99);
            bench.special(name, 1, 260);
            bench.special(name, 2, RANGE | FLAG | OVERFLOW | 1);
            bench.special(name, 0, FLAG | OVERFLOW | 1);
            bench.special(name, 3, 0);
            Check.due(name + ": no register", bench.x.eventOf(1, 2), -1);
            Check.due(name + ": no value", bench.x.valueOf(1, 1), 0);
            Check.due(name + ": goes on at 2816", bench.x.valueOf(2, 0), 2816);
            Check.due(name + ": exceptions", bench.x.lookAt(2), 1);
        }
    }

    private static void loads() {
        int[][] cases = {
            {26, 0, 0x81F2C3D4}, {26, -4, 7}, {27, 0, 0x81}, {27, 1, 0xF2}, {27, 2, 0xC3},
            {27, 3, 0xD4}, {27, -1, 7}, {51, 0, 0xFFFFFF81}, {51, 3, 0xFFFFFFD4}, {51, -1, 7},
            {52, 0, 0x81F2}, {52, 2, 0xC3D4}, {52, -2, 7}, {53, 0, 0xFFFF81F2},
            {53, 2, 0xFFFFC3D4}, {53, -2, 7},
        };
        for (int base : new int[] {40000, 8192}) {
            for (int[] one : cases) {
                Bench bench = new Bench();
                bench.at(base - 4).put(7, 0x81F2C3D4).at(256);
                bench.register(1, base).put(Code.imm(one[0], 3, 1, one[1])).run(20);
                String name = "load " + one[0] + " from " + base + " and " + one[1];
                bench.register(name, 3, one[2]);
                Check.due(name + ": register", bench.x.eventOf(0, 2), 3);
                Check.due(name + ": value", bench.x.valueOf(0, 1), one[2]);
                Check.due(name + ": no place", bench.x.eventOf(0, 4), -1);
            }
        }
    }

    private static void stores() {
        int[][] cases = {
            {28, 0, 0xA1B2C3D4, 0xA1B2C3D4}, {29, 0, 0xD4, 0xD4BBCCDD},
            {29, 1, 0xD4, 0xAAD4CCDD}, {29, 2, 0xD4, 0xAABBD4DD}, {29, 3, 0xD4, 0xAABBCCD4},
            {54, 0, 0xC3D4, 0xC3D4CCDD}, {54, 2, 0xC3D4, 0xAABBC3D4},
        };
        for (int base : new int[] {32768, 65532}) {
            for (int[] one : cases) {
                Bench bench = new Bench();
                bench.at(base).put(0xAABBCCDD).at(256);
                bench.register(1, base + 100).register(3, 0xA1B2C3D4);
                bench.put(Code.imm(one[0], 3, 1, one[1] - 100)).run(6);
                String name = "store " + one[0] + " at " + base + " and " + one[1];
                Check.due(name + ": word", bench.x.wordAt(base), one[3]);
                Check.due(name + ": place", bench.x.eventOf(0, 4), base + one[1]);
                Check.due(name + ": stored", bench.x.valueOf(0, 2), one[2]);
                Check.due(name + ": no register", bench.x.eventOf(0, 2), -1);
                Check.due(name + ": no value", bench.x.valueOf(0, 1), 0);
                bench.register(name, 3, 0xA1B2C3D4);
            }
        }
        Bench zero = new Bench();
        zero.at(40000).put(5).at(256).register(1, 40000).put(Code.imm(28, 0, 1, 0)).run(6);
        Check.due("a 0 is stored", zero.x.wordAt(40000), 0);
        Check.due("a 0 has a place", zero.x.eventOf(0, 4), 40000);
        // What is stored is seen by a LOAD behind it.
        Bench seen = new Bench();
        seen.register(1, 50000).register(2, -2);
        seen.put(Code.imm(54, 2, 1, 2), Code.imm(26, 3, 1, 0)).run(20);
        seen.register("a half is seen", 3, 0xFFFE);
    }

    private static void specials() {
        int[][] kept = {
            {1, -1}, {2, 1023}, {3, -1}, {4, 0x0FFFFFFF}, {6, -1}, {9, -1}, {10, -1}, {11, -1},
            {5, 0x1FFFFFFF}, {1024, -1}, {1024 + 15, -1}, {1152, -1}, {1152 + 15, -1}, {1280, -1},
            {1280 + 15, -1}, {1408, -1}, {1408 + 15, -1}, {8, 2}, {12, 0}, {13, 0}, {1023, 0},
            {1024 + 16, 0}, {1151, 0}, {1152 + 16, 0}, {1280 + 16, 0}, {1408 + 16, 0}, {1535, 0},
            {1536, 0}, {65535, 0}, {7, 0},
        };
        for (int[] one : kept) {
            Bench bench = new Bench();
            bench.special(one[0], 1, one[0] == 5 ? 0x9FFFFFFF : -1);
            bench.put(Code.read(3, one[0])).run(17);
            String name = "special " + one[0];
            int due = one[0] == 8 ? 1 : one[1];
            bench.register(name, 3, due);
            bench.special(name, one[0], one[1]);
            Check.due(name + ": WRITE writes no register", bench.x.eventOf(0, 2), -1);
            Check.due(name + ": READ writes one", bench.x.eventOf(1, 2), 3);
            Check.due(name + ": its value", bench.x.valueOf(1, 1), due);
            Check.due(name + ": RETIRED", bench.x.specialOf(8), 2);
        }
        Bench all = new Bench(128);
        all.special(1024 + 127, 1, 5).special(1535, 2, 6).run(30);
        all.special("set 127", 1151, 5);
        all.special("set 127", 1535, 6);
        Bench timer = new Bench();
        timer.special(5, 1, 0xE0000000).run(10);
        timer.special("bit 31 of TIMER is 0", 5, 0x60000000);
        Bench sr = new Bench();
        sr.special(0, 1, 0xFFFFFFE1).halts().run(10);
        sr.special("bits of SR", 0, 0x3E1);
        Check.due("IN SLOT is but a bit", sr.x.placeOf(1), 0);
    }

    private static void registerZero() {
        int[] words = {
            Code.imm(Code.ADD_I, 0, 0, 5), Code.imm(14, 0, 0, 5), Code.imm(26, 0, 1, 0),
            Code.read(0, 0), Code.abd(8, 0, 1, 1), Code.imm(12, 0, 0, 9),
        };
        for (int word : words) {
            Bench bench = new Bench();
            bench.at(40000).put(3).at(256);
            bench.register(1, 40000).put(word, Code.imm(Code.ADD_I, 2, 0, 1)).run(30);
            String name = "to register 0 " + Integer.toHexString(word);
            bench.register(name, 0, 0);
            bench.register(name, 2, 1);
            Check.due(name + ": NONE", bench.x.eventOf(0, 2), -1);
            Check.due(name + ": no value", bench.x.valueOf(0, 1), 0);
        }
        Bench nothing = new Bench();
        nothing.put(Code.abd(55, 5, 1, 2)).run(6);
        Check.due("55 writes nothing", nothing.x.eventOf(0, 2), -1);
        nothing.event("55", 0, 256, 0);
    }

    private static void illegal() {
        for (int op = 58; op < 64; op++) {
            exceptionSeven("op " + op, Code.abd(op, 1, 2, 3));
        }
        for (int d = 10; d < 32; d++) {
            exceptionSeven("compare " + d, Code.abd(18, d, 0, 0));
            exceptionSeven("compare with I " + d, Code.imm(19, d, 0, 0));
        }
    }

    private static void exceptionSeven(String name, int word) {
        Bench bench = new Bench();
        bench.put(word).run(6);
        bench.event(name, 0, 256, 7);
        Check.due(name + ": goes to 1792", bench.x.placeOf(0), 1792);
        Check.due(name + ": no compare", bench.x.eventOf(0, 3), 0);
        bench.special(name, 1, 256);
        bench.special(name, 0, 1);
        bench.special(name, 8, 0);
    }
}
