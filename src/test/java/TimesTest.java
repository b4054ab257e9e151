/** F, T and C of instructions, worked out by hand from the rules of TIMES (promises 6, 11, 13). */
public final class TimesTest {
    private static final int N = Code.nothing();

    private TimesTest() {
    }

    public static void main(String[] args) {
        plain();
        registers();
        registersThatAreNotRead();
        everyReader();
        nothingElseWaits();
        loadsAndStores();
        multiplies();
        divides();
        sums();
        carry();
        flag();
        singles();
        exceptions();
        exceptionsOfSlowOnes();
        foreseenBranches();
        redirectedBranches();
        groupsBehindSlots();
        fiveAhead();
        unreadable();
        timerOnSlowOnes();
        counts();
        Check.end("TimesTest");
    }

    private static Bench code(int... words) {
        Bench bench = new Bench();
        bench.register(8, 40000).register(9, 3);
        return bench.put(words);
    }

    /** The first instructions of a program have these times, three numbers each. */
    private static void times(String name, int[] words, int... due) {
        code(words).halts().run(100).times(name, 0, due);
    }

    private static int[] words(int... words) {
        return words;
    }

    private static int set(int register) {
        return Code.imm(Code.ADD_I, register, 0, 1);
    }

    private static int use(int register) {
        return Code.imm(Code.ADD_I, 7, register, 1);
    }

    private static void plain() {
        times("plain", words(N, N, N, N, N), 1, 3, 6, 1, 3, 6, 2, 4, 7, 2, 4, 7, 3, 5, 8);
    }

    private static void registers() {
        times("one uses the other", words(set(1), use(1), N, N), 1, 3, 6, 1, 4, 7, 2, 4, 7, 2, 5, 8);
        times("B", words(set(1), Code.abd(2, 2, 0, 1)), 1, 3, 6, 1, 4, 7);
        times("D of a STORE", words(set(1), Code.imm(28, 1, 8, 0)), 1, 3, 6, 1, 4, 7);
        times("D of a byte", words(set(1), Code.imm(29, 1, 8, 0)), 1, 3, 6, 1, 4, 7);
        times("D of a half", words(set(1), Code.imm(54, 1, 8, 0)), 1, 3, 6, 1, 4, 7);
        times("A of a LOAD", words(set(8), Code.imm(27, 2, 8, 0)), 1, 3, 6, 1, 4, 7);
        times("B of a JUMP", words(Code.imm(10, 1, 0, 400), Code.abd(24, 0, 0, 1)), 1, 3, 6, 1, 4, 7);
        times("46", words(set(1), Code.abd(46, 2, 0, 1)), 1, 3, 6, 1, 4, 7);
        times("46 of A", words(set(1), Code.abd(46, 2, 1, 0)), 1, 3, 6, 1, 4, 7);
        // The call writes register 31 in its own cycle; its slot is later anyway.
        times("31", words(Code.jump(21, 6), use(31), N), 1, 3, 6, 1, 4, 7);
        // Of two that write a register the last one counts.
        int load = Code.imm(26, 1, 8, 0);
        times("written twice", words(load, set(1), use(1)), 1, 3, 6, 1, 3, 6, 2, 4, 7);
        times("written twice", words(set(1), load, use(1)), 1, 3, 6, 1, 3, 6, 2, 5, 8);
    }

    private static void registersThatAreNotRead() {
        int[] others = {
            Code.abd(10, 2, 0, 1), Code.abd(14, 2, 1, 1), Code.abd(15, 2, 0, 1),
            Code.abd(26, 2, 8, 0) | 4, Code.abd(41, 2, 1, 1), Code.abd(42, 2, 0, 1),
            Code.abd(50, 2, 0, 1), Code.abd(55, 1, 1, 1), Code.abd(10, 1, 0, 0), Code.abd(19, 1, 0, 1),
            Code.abd(27, 1, 8, 0), Code.abd(39, 1, 0, 1), Code.abd(47, 1, 0, 1),
            Code.abd(57, 1, 0, 1), Code.abd(18, 1, 0, 0),
        };
        for (int other : others) {
            int c = other >>> 26 == 39 || other >>> 26 == 57 ? 8 : 6;
            times("not read by " + (other >>> 26), words(set(1), other), 1, 3, 6, 1, 3, c);
        }
        times("register 0", words(Code.imm(10, 0, 0, 4), use(0)), 1, 3, 6, 1, 3, 6);
        times("register 0", words(Code.imm(26, 0, 8, 0), use(0), use(0)),
                1, 3, 6, 1, 3, 6, 2, 4, 7);
        times("no write", words(Code.imm(28, 1, 8, 0), use(1)), 1, 3, 6, 1, 3, 6);
        times("no write", words(Code.abd(18, 1, 0, 0), use(1)), 1, 3, 6, 1, 3, 6);
    }

    /** Each instruction that can be in a PAIR, behind one that writes its A, its B or its D. */
    private static void everyReader() {
        int[] readA = {0, 1, 2, 3, 4, 5, 6, 7, 8, 9, 10, 11, 12, 13, 15, 16, 17, 18, 19, 26, 27, 28,
            29, 34, 35, 36, 37, 38, 39, 40, 42, 43, 44, 45, 46, 47, 48, 49, 50, 51, 52, 53, 54, 57};
        int[] readB = {0, 1, 2, 3, 4, 5, 6, 7, 8, 9, 18, 24, 25, 34, 36, 37, 38, 40, 46, 49};
        int[] readD = {28, 29, 54};
        for (int op = 0; op < 58; op++) {
            if (op >= 30 && op <= 33 || op == 56) {
                continue;
            }
            reader(Code.abd(op, 2, 1, 3), has(readA, op));
            reader(Code.abd(op, 2, 3, 1), has(readB, op));
            reader(Code.abd(op, 1, 3, 2), has(readD, op));
            int after = has(new int[] {34, 35}, op) ? 4 : 3;
            issuedAt("CARRY", Code.imm(10, 4, 0, 1), Code.abd(op, 2, 3, 5), after);
            after = has(new int[] {22, 23, 46}, op) ? 4 : 3;
            issuedAt("FLAG", Code.abd(18, 0, 0, 0), Code.abd(op, 2, 3, 5), after);
        }
    }

    private static boolean has(int[] all, int one) {
        for (int each : all) {
            if (each == one) {
                return true;
            }
        }
        return false;
    }

    private static void reader(int word, boolean reads) {
        issuedAt("reads", Code.imm(14, 1, 0, 1), word, reads ? 4 : 3);
    }

    private static void issuedAt(String name, int first, int second, int due) {
        Bench bench = new Bench();
        bench.put(first, second).halts().run(40);
        Check.due(name + " " + (second >>> 26), bench.x.eventOf(1, 7), due);
    }

    /** What is kept of FLAG, CARRY, SUM and DIVIDEs holds up no register, nor one the other. */
    private static void nothingElseWaits() {
        int[] firsts = {Code.abd(18, 0, 0, 0), Code.abd(36, 1, 9, 9), Code.abd(38, 0, 9, 9),
            Code.abd(9, 1, 9, 9), Code.abd(37, 1, 9, 9), Code.imm(26, 1, 8, 0)};
        for (int first : firsts) {
            for (int register = 2; register < 32; register++) {
                issuedAt("not written", first, use(register), 3);
            }
        }
        issuedAt("a DIVIDE is no sum", Code.abd(9, 1, 9, 9), Code.abd(41, 2, 0, 0), 3);
        issuedAt("a sum is no DIVIDE", Code.abd(38, 0, 9, 9), Code.abd(9, 1, 9, 9), 4);
        issuedAt("a sum is no CARRY", Code.abd(38, 0, 9, 9), Code.abd(34, 1, 0, 0), 3);
        issuedAt("a sum is no FLAG", Code.abd(38, 0, 9, 9), Code.abd(46, 1, 0, 0), 3);
        issuedAt("a DIVIDE is no CARRY", Code.abd(9, 1, 9, 9), Code.abd(35, 2, 0, 0), 3);
    }

    private static void loadsAndStores() {
        int[] loads = {26, 27, 51, 52, 53};
        int[] accesses = {26, 27, 51, 52, 53, 28, 29, 54};
        for (int load : loads) {
            times("a LOAD is used", words(Code.imm(load, 1, 8, 0), use(1), N),
                    1, 3, 6, 1, 5, 8, 2, 5, 8);
        }
        for (int first : accesses) {
            for (int second : accesses) {
                int[] words = words(Code.imm(first, 1, 8, 0), Code.imm(second, 2, 8, 4), N);
                times("accesses " + first + " " + second, words, 1, 3, 6, 1, 4, 7, 2, 4, 7);
            }
            times("beside another", words(N, Code.imm(first, 1, 8, 0)), 1, 3, 6, 1, 3, 6);
            times("beside another", words(Code.imm(first, 1, 8, 0), N), 1, 3, 6, 1, 3, 6);
        }
        times("a LOAD and a MULTIPLY", words(Code.imm(26, 1, 8, 0), Code.abd(8, 2, 9, 9)),
                1, 3, 6, 1, 3, 8);
    }

    private static void multiplies() {
        int[] products = {8, 36, 57};
        for (int op : products) {
            int product = Code.abd(op, 1, 9, 9);
            times("used " + op, words(product, use(1)), 1, 3, 8, 1, 6, 9);
        }
        int[] all = {8, 36, 57, 38, 39, 40};
        for (int op : all) {
            int product = Code.abd(op, 1, 9, 9);
            times("in order " + op, words(product, N, N, N), 1, 3, 8, 1, 3, 8, 2, 4, 9, 2, 4, 9);
            times("two " + op, words(product, Code.abd(8, 2, 9, 9)), 1, 3, 8, 1, 4, 9);
            times("two " + op, words(Code.abd(8, 2, 9, 9), product), 1, 3, 8, 1, 4, 9);
        }
    }

    private static void divides() {
        for (int op = 9; op <= 37; op += 28) {
            int divide = Code.abd(op, 1, 9, 9);
            times("used " + op, words(divide, use(1)), 1, 3, 23, 1, 21, 24);
            times("two " + op, words(divide, Code.abd(9, 2, 9, 9)), 1, 3, 23, 1, 21, 41);
            times("two " + op, words(Code.abd(37, 2, 9, 9), divide), 1, 3, 23, 1, 21, 41);
            times("and MULTIPLY " + op, words(divide, Code.abd(8, 2, 9, 9)), 1, 3, 23, 1, 4, 23);
            times("MULTIPLY and " + op, words(Code.abd(8, 2, 9, 9), divide), 1, 3, 8, 1, 4, 24);
            times("in order " + op, words(divide, N, N, N), 1, 3, 23, 1, 3, 23, 2, 4, 24, 2, 4, 24);
        }
    }

    private static void sums() {
        int take = Code.abd(41, 1, 0, 0);
        for (int op = 38; op <= 40; op++) {
            times("taken " + op, words(Code.abd(op, 0, 9, 9), take), 1, 3, 8, 1, 6, 9);
            times("taken later " + op, words(Code.abd(op, 0, 9, 9), N, take, N),
                    1, 3, 8, 1, 3, 8, 2, 6, 9, 2, 6, 9);
        }
        times("another MULTIPLY", words(Code.abd(8, 2, 9, 9), take), 1, 3, 8, 1, 3, 8);
        times("41 is used", words(take, use(1)), 1, 3, 6, 1, 4, 7);
        // Products that are added wait for nothing but their registers.
        times("more and more", words(Code.abd(38, 0, 9, 9), Code.abd(38, 0, 9, 9)),
                1, 3, 8, 1, 4, 9);
        times("taken and more", words(take, Code.abd(38, 0, 9, 9)), 1, 3, 6, 1, 3, 8);
    }

    private static void carry() {
        for (int op = 34; op <= 35; op++) {
            int reads = Code.abd(op, 2, 0, 0);
            int[] fast = {0, 1, 10, 34, 35};
            for (int writer : fast) {
                times("CARRY of " + writer, words(Code.abd(writer, 1, 0, 0), reads),
                        1, 3, 6, 1, 4, 7);
            }
            times("CARRY of 36", words(Code.abd(36, 1, 9, 9), reads), 1, 3, 8, 1, 6, 9);
            times("CARRY of 37", words(Code.abd(37, 1, 9, 9), reads), 1, 3, 23, 1, 21, 24);
            times("no CARRY of 8", words(Code.abd(8, 1, 9, 9), reads), 1, 3, 8, 1, 3, 8);
            times("no CARRY of 9", words(Code.abd(9, 1, 9, 9), reads), 1, 3, 23, 1, 3, 23);
            times("no CARRY of 2", words(Code.abd(2, 1, 9, 9), reads), 1, 3, 6, 1, 3, 6);
            times("the last CARRY", words(Code.abd(36, 1, 9, 9), set(3), reads),
                    1, 3, 8, 1, 3, 8, 2, 4, 9);
        }
        times("an ADD reads no CARRY", words(set(1), set(2)), 1, 3, 6, 1, 3, 6);
    }

    private static void flag() {
        int[] readers = {Code.jump(22, 8), Code.jump(23, 8), Code.abd(46, 1, 0, 0)};
        for (int compare = 18; compare <= 19; compare++) {
            int writes = Code.abd(compare, 0, 0, 0);
            for (int reader : readers) {
                times("FLAG", words(writes, reader), 1, 3, 6, 1, 4, 7);
                times("no FLAG", words(set(2), reader), 1, 3, 6, 1, 3, 6);
            }
            times("a JUMP without FLAG", words(writes, Code.jump(20, 8)), 1, 3, 6, 1, 3, 6);
        }
    }

    private static void singles() {
        int none = Code.abd(18, 10, 0, 0);
        int[] all = {Code.read(1, 0), Code.write(6, 0), Code.sys(), Code.back(), Code.trap(),
            Code.abd(58, 0, 0, 0), Code.abd(63, 0, 0, 0), none};
        for (int single : all) {
            String name = "single " + Integer.toHexString(single);
            times(name, words(N, single), 1, 3, 6, 1, 7, 10, 11, 13, 16);
            times(name, words(single), 1, 3, 6, 7, 9, 12);
            times(name, words(Code.abd(8, 1, 9, 9), single), 1, 3, 8, 1, 9, 12, 13, 15, 18);
        }
        times("two", words(Code.read(1, 0), Code.read(2, 0)), 1, 3, 6, 7, 9, 12, 13, 15, 18);
        // In a slot, whose branch went as foreseen.
        times("in a slot", words(Code.jump(20, 8), Code.read(1, 0)), 1, 3, 6, 1, 7, 10, 11, 13, 16);
    }

    private static void exceptions() {
        int bad = Code.imm(26, 1, 0, 1);
        times("first", words(bad), 1, 3, 6, 7, 9, 12, 7, 10, 13);
        times("second", words(N, bad), 1, 3, 6, 1, 3, 7, 8, 10, 13);
        times("third", words(N, N, bad), 1, 3, 6, 1, 3, 6, 2, 4, 7, 8, 10, 13);
        times("behind a slow one", words(Code.abd(8, 1, 9, 9), bad), 1, 3, 8, 1, 3, 9, 10, 12, 15);
        times("a STORE in CODE", words(N, Code.imm(28, 1, 0, 8)), 1, 3, 6, 1, 3, 7, 8, 10, 13);
        times("waits for its register", words(set(8), Code.imm(26, 1, 8, 0)),
                1, 3, 6, 1, 4, 7, 8, 10, 13);
        times("a branch in a slot", words(Code.jump(20, 8), Code.jump(20, 8)),
                1, 3, 6, 1, 4, 7, 8, 10, 13);
    }

    private static void exceptionsOfSlowOnes() {
        Bench product = code();
        product.register(1, 1 << 20).special(0, 2, 513).put(N, Code.abd(8, 3, 1, 1)).halts();
        product.run(60).times("range of a MULTIPLY", 0, 1, 3, 6, 7, 9, 12, 7, 9, 14, 15, 17, 20);
        product.event("range of a MULTIPLY", 2, 264, 11);
        Bench divide = code();
        divide.special(0, 2, 513).put(N, Code.abd(9, 3, 9, 0)).halts();
        divide.run(60).times("range of a DIVIDE", 0, 1, 3, 6, 7, 9, 12, 7, 9, 29, 30, 32, 35);
        divide.event("range of a DIVIDE", 2, 264, 11);
    }

    private static void foreseenBranches() {
        int[] jumps = {Code.jump(20, 20), Code.jump(21, 20), Code.jump(20, -20), Code.jump(23, -20)};
        for (int jump : jumps) {
            Bench bench = code(jump, N);
            bench.at(256 + 4 * (jump << 6 >> 6)).put(N, N).at(264).halts().run(40);
            bench.times("foreseen " + Integer.toHexString(jump), 0,
                    1, 3, 6, 1, 4, 7, 2, 4, 7, 2, 5, 8);
        }
        times("foreseen not to go", words(Code.jump(22, 20), N, N, N),
                1, 3, 6, 1, 4, 7, 2, 4, 7, 2, 5, 8);
        times("foreseen not to go", words(Code.jump(22, 0), N, N, N),
                1, 3, 6, 1, 4, 7, 2, 4, 7, 2, 5, 8);
        times("a branch can be the second", words(N, Code.jump(20, 20), N),
                1, 3, 6, 1, 3, 6, 2, 4, 7, 3, 5, 8);
        Bench flag = code();
        flag.special(0, 2, 33).put(Code.jump(22, -9), N).halts().at(260 - 36).put(N);
        flag.run(40).times("22 goes back", 1, 7, 9, 12, 7, 10, 13, 8, 10, 13);
    }

    private static void redirectedBranches() {
        int[] words = {
            Code.jump(22, -20), Code.jump(23, 20), Code.jump(23, 0), Code.jump(23, 2),
            Code.abd(24, 0, 0, 5), Code.abd(25, 0, 0, 5), Code.abd(24, 0, 0, 6),
            Code.abd(24, 31, 31, 5) | 2047, Code.abd(25, 31, 31, 5) | 2047,
        };
        for (int word : words) {
            Bench bench = code(word, N);
            bench.register(5, 400).register(6, 264).halts().run(40);
            bench.times("redirected " + Integer.toHexString(word), 0, 1, 3, 6, 1, 4, 7, 5, 7, 10);
        }
        // The slot is held up: it is T of the branch that counts.
        times("a late slot", words(Code.abd(9, 1, 9, 9), Code.jump(23, 20), use(1)),
                1, 3, 23, 1, 3, 23, 2, 21, 24, 5, 21, 24);
        times("a late branch", words(Code.abd(8, 1, 9, 9), Code.abd(24, 0, 0, 1), N),
                1, 3, 8, 1, 6, 9, 2, 7, 10, 8, 10, 13);
        // Both ways: a SINGLE one in the slot of a branch that went otherwise.
        times("a SINGLE one in the slot", words(Code.jump(23, 20), Code.read(1, 0)),
                1, 3, 6, 1, 7, 10, 11, 13, 16);
    }

    private static void groupsBehindSlots() {
        // The slot begins a group; what is behind it lies at the next address.
        times("foreseen to go there", words(N, Code.jump(20, 2), N, N, N),
                1, 3, 6, 1, 3, 6, 2, 4, 7, 3, 5, 8, 3, 5, 8);
        times("foreseen not to go", words(N, Code.jump(22, 9), N, N, N),
                1, 3, 6, 1, 3, 6, 2, 4, 7, 2, 4, 7, 3, 5, 8);
        times("redirected there", words(N, Code.jump(23, 2), N, N, N),
                1, 3, 6, 1, 3, 6, 2, 4, 7, 5, 7, 10, 5, 7, 10);
    }

    private static void fiveAhead() {
        times("five ahead", words(Code.abd(9, 1, 9, 9), use(1), N, N, N, N, N, N, N, N),
                1, 3, 23, 1, 21, 24, 2, 21, 24, 2, 22, 25, 3, 22, 25, 3, 23, 26, 22, 24, 27,
                22, 24, 27, 23, 25, 28, 23, 25, 28);
        times("five ahead of one", words(N, Code.abd(9, 1, 9, 9), use(1), N, N, N, N, N, N, N),
                1, 3, 6, 1, 3, 23, 2, 21, 24, 2, 21, 24, 3, 22, 25, 3, 22, 25, 4, 23, 26, 4, 23, 26,
                22, 24, 27, 22, 24, 27);
    }

    private static void unreadable() {
        Bench odd = code(Code.abd(24, 0, 0, 5), N);
        odd.register(5, 402).halts().run(40);
        odd.times("not aligned", 0, 1, 3, 6, 1, 4, 7, 5, 7, 10, 11, 13, 16);
        odd.event("not aligned", 2, 402, 6);
        // It reads nothing, not even what the word that was read last reads.
        Bench behind = code(Code.abd(24, 0, 0, 5), Code.abd(9, 9, 9, 9));
        behind.register(5, 402).halts().run(40);
        behind.times("behind a DIVIDE", 0, 1, 3, 6, 1, 4, 24, 5, 7, 25, 26, 28, 31);
        Bench end = code(Code.abd(24, 0, 0, 5), N);
        end.register(5, 32764).halts().at(32764).put(N).run(40);
        end.times("behind CODE", 0, 1, 3, 6, 1, 4, 7, 5, 7, 10, 5, 7, 11, 12, 14, 17);
        end.event("behind CODE", 3, 32768, 2);
    }

    /** With exception 5 it has the times of what is read there. */
    private static void timerOnSlowOnes() {
        int[][] cases = {
            {Code.abd(9, 1, 9, 9), 35}, {Code.abd(8, 1, 9, 9), 20}, {N, 18}, {Code.sys(), 18},
            {Code.imm(26, 1, 8, 0), 18},
        };
        for (int[] one : cases) {
            Bench bench = code();
            bench.special(5, 1, 1 << 28).special(0, 2, 3).put(one[0]).halts().run(60);
            String name = "timer on " + Integer.toHexString(one[0]);
            bench.event(name, 2, 264, 5);
            bench.times(name, 0, 1, 3, 6, 7, 9, 12, 13, 15, one[1], one[1] + 1, one[1] + 3,
                    one[1] + 6);
        }
        // TIMER is due at the second of a group, two instructions behind the WRITE of SR.
        int[][] seconds = {
            {Code.read(4, 0), 19, 22}, {N, 15, 19}, {use(3), 16, 19}, {Code.abd(9, 4, 9, 9), 15, 35},
            {Code.abd(63, 0, 0, 0), 19, 22},
        };
        for (int[] one : seconds) {
            Bench bench = code();
            bench.special(5, 1, 1 << 29 | 3).special(0, 2, 3).put(set(3), one[0]).halts().run(60);
            String name = "timer on the second " + Integer.toHexString(one[0]);
            bench.event(name, 3, 268, 5);
            bench.times(name, 2, 13, 15, 18, 13, one[1], one[2], one[2] + 1, one[2] + 3, one[2] + 6);
        }
    }

    private static void counts() {
        Bench bench = code(N, N, Code.abd(9, 1, 9, 9), use(1), N, N).halts();
        // C: 6 6, 24, 25 25, 26, and the loop behind.
        Check.due("none yet", bench.x.runCycles(5), 0);
        Check.due("no way", bench.x.lookAt(6), 0);
        Check.due("none kept", bench.x.lookAt(4), -1);
        Check.due("two", bench.x.runCycles(1), 2);
        Check.due("first way", bench.x.lookAt(6), 6);
        Check.due("first kept", bench.x.lookAt(4), 0);
        Check.due("none", bench.x.runCycles(17), 0);
        Check.due("the way is not longer yet", bench.x.lookAt(6), 6);
        Check.due("one", bench.x.runCycles(1), 1);
        Check.due("the longest way", bench.x.lookAt(6), 18);
        Check.due("double cycles", bench.x.lookAt(3), 1);
        Check.due("two", bench.x.runCycles(1), 2);
        Check.due("double cycles", bench.x.lookAt(3), 2);
        Check.due("cycles", bench.x.lookAt(0), 25);
        Check.due("events", bench.x.lookAt(1), 5);
        Check.due("exceptions", bench.x.lookAt(2), 0);
    }
}
