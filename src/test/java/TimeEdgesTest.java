/**
 * One test of its own for each sentence of TIMES (FETCH, ISSUE, PAIR, EVENT) that names an edge: just
 * ahead of a time, just then, and just behind. All times are worked out by hand.
 */
public final class TimeEdgesTest {
    private static final int N = Code.nothing();
    private static final int LEAST_J = -(1 << 25);
    private static final int MOST_J = (1 << 25) - 1;
    private static final int BAD_LOAD = Code.imm(26, 1, 0, 1);
    private static final int TAKE_SUM = Code.abd(41, 2, 0, 0);
    private static final int DIVIDE = Code.abd(9, 1, 9, 9);

    private TimeEdgesTest() {
    }

    public static void main(String[] args) {
        firstOfAll();
        groups();
        addressBehind();
        redirectedBeginsAGroup();
        behindASlotThatIsForeseen();
        groupBefore();
        fiveAhead();
        foreseenBelowZero();
        notForeseen();
        wentOtherwise();
        twoBehindTheBranch();
        behindExceptions();
        behindSingles();
        twoBehindFetch();
        threeAtOnce();
        delayOfOne();
        delayOfLoads();
        delayOfMultiplies();
        delayOfDivides();
        registerZeroIsNotAwaited();
        othersAreNotAwaited();
        flagIsAwaited();
        carryIsAwaited();
        lastWriterIsAwaited();
        retiredWritersAreAwaited();
        dividesAfterDivides();
        sumsAreAwaited();
        singlesAwaitTheOneBefore();
        singlesWithAnyException();
        pairs();
        pairsWithRegisters();
        pairsWithFlagAndCarry();
        pairsWithSum();
        eventsOfSlowOnes();
        eventsInOrder();
        eventsOfExceptions();
        unreadable();
        unreadableForAnyCause();
        asTheInstructionThere();
        slowOnesWithExceptions();
        writtenForNobody();
        Check.end("TimeEdgesTest");
    }

    private static Bench code(int... words) {
        Bench bench = new Bench();
        bench.register(5, 400).register(6, 264).register(8, 40000).register(9, 3);
        return bench.put(words);
    }

    /** The first instructions of a program have these times, three numbers each. */
    private static void times(String name, int[] words, int... due) {
        code(words).halts().run(100).times(name, 0, due);
    }

    private static int[] words(int... words) {
        return words;
    }

    private static int use(int register) {
        return Code.imm(Code.ADD_I, 7, register, 1);
    }

    // ---- FETCH

    private static void firstOfAll() {
        Check.sentence("TIMES", "(First of all F is 1.)");
        int[] firsts = {N, Code.jump(20, 5), DIVIDE, Code.read(1, 0), Code.sys(), BAD_LOAD};
        for (int first : firsts) {
            Bench bench = code(first).halts();
            for (int life = 0; life < 2; life++) {
                bench.run(40);
                Check.due("F", bench.x.eventOf(0, 6), 1);
                Check.due("T", bench.x.eventOf(0, 7), 3);
                bench.x.restart();
                bench.register(9, 3);
            }
        }
    }

    private static void groups() {
        Check.sentence("TIMES", "instructions are fetched in groups of one or two");
        times("groups of two", words(N, N, N, N, N, N, N),
                1, 3, 6, 1, 3, 6, 2, 4, 7, 2, 4, 7, 3, 5, 8, 3, 5, 8, 4, 6, 9);
        // Behind a group of one (the slot of a JUMP) a new one begins, at any address.
        for (int to = 3; to < 5; to++) {
            Bench bench = code(N, Code.jump(20, to), N).halts().at(260 + 4 * to).put(N, N, N);
            bench.run(30).times("a group of one", 2, 2, 4, 7, 3, 5, 8, 3, 5, 8, 4, 6, 9);
        }
    }

    private static void addressBehind() {
        Check.sentence("TIMES", "if it lies at the address behind that of i");
        // The last of a page and the first of the next one, whose places are far from one another.
        Bench bench = code();
        bench.special(1024 + 5, 1, 5121).special(1152 + 5, 2, 8192 + 4);
        bench.special(1024 + 6, 3, 6145).special(1152 + 6, 4, 16384 + 4);
        bench.special(1, 10, 5120 + 1020).special(2, 11, 17).put(Code.back()).halts();
        bench.at(8192 + 1020).put(N).at(16384).put(N, N).run(60);
        bench.event("the last of a page", 7, 6140, 0);
        bench.event("the first of a page", 8, 6144, 0);
        bench.times("both", 7, 43, 45, 48, 43, 45, 48, 44, 46, 49);
    }

    private static void redirectedBeginsAGroup() {
        Check.sentence("TIMES", "is not REDIRECTED");
        // Each time it lies just behind one that begins a group.
        times("behind a SINGLE one", words(Code.read(1, 0), N, N, N),
                1, 3, 6, 7, 9, 12, 7, 9, 12, 8, 10, 13);
        Bench slot = code(N, Code.abd(24, 0, 0, 4), N, N, N, N);
        slot.register(4, 268).halts().run(40);
        slot.times("behind a slot", 2, 2, 4, 7, 5, 7, 10, 5, 7, 10, 6, 8, 11);
        Bench exception = code(N, Code.abd(24, 0, 0, 4), N);
        exception.register(4, 3068).at(3068).put(Code.sys(), N, N, N).run(40);
        exception.event("an exception", 3, 3068, 12);
        exception.event("behind an exception", 4, 3072, 0);
        exception.times("behind an exception", 3, 5, 8, 11, 12, 14, 17, 12, 14, 17, 13, 15, 18);
    }

    private static void behindASlotThatIsForeseen() {
        Check.sentence("TIMES", "and i is not in the SLOT of a BRANCH that is foreseen to go");
        // TARGET is just behind the slot, at PC + 8.
        times("foreseen to go", words(N, Code.jump(20, 2), N, N, N),
                1, 3, 6, 1, 3, 6, 2, 4, 7, 3, 5, 8, 3, 5, 8);
        times("foreseen to go", words(N, Code.jump(21, 2), N, N, N),
                1, 3, 6, 1, 3, 6, 2, 4, 7, 3, 5, 8, 3, 5, 8);
        times("foreseen not to go", words(N, Code.jump(22, 2), N, N, N),
                1, 3, 6, 1, 3, 6, 2, 4, 7, 2, 4, 7, 3, 5, 8);
        times("REDIRECTED", words(N, Code.jump(23, 2), N, N, N),
                1, 3, 6, 1, 3, 6, 2, 4, 7, 5, 7, 10, 5, 7, 10);
        // The branch itself and its slot are a group.
        times("branch and slot", words(Code.jump(20, 2), N, N, N),
                1, 3, 6, 1, 4, 7, 2, 4, 7, 2, 5, 8);
    }

    private static void groupBefore() {
        Check.sentence("TIMES", "which is above that of the group before");
        Bench loop = code(Code.jump(20, 0), N);
        loop.run(60);
        for (int event = 0; event < 6; event++) {
            Check.due("F of event " + event, loop.x.eventOf(event, 6), 1 + event / 2);
        }
        Bench plain = code();
        plain.run(40);
        for (int event = 0; event < 60; event++) {
            Check.due("F of event " + event, plain.x.eventOf(event, 6), 1 + event / 2);
        }
    }

    private static void fiveAhead() {
        Check.sentence("TIMES", "above T of the instruction five ahead of the first one of the group");
        // T of 1 is 21. F of 6 has to be above it, F of 4 (five behind none) does not.
        times("five ahead is late", words(DIVIDE, use(1), N, N, N, N, N, N, N, N),
                1, 3, 23, 1, 21, 24, 2, 21, 24, 2, 22, 25, 3, 22, 25, 3, 23, 26, 22, 24, 27,
                22, 24, 27, 23, 25, 28, 23, 25, 28);
        // T of 2 is 21, which is five ahead of 7, the second of a group: only 8 waits, for T of 3.
        times("five ahead of the second", words(N, DIVIDE, use(1), N, N, N, N, N, N, N),
                1, 3, 6, 1, 3, 23, 2, 21, 24, 2, 21, 24, 3, 22, 25, 3, 22, 25, 4, 23, 26, 4, 23, 26,
                22, 24, 27, 22, 24, 27);
    }

    private static void foreseenBelowZero() {
        Check.sentence("TIMES", "BRANCHES 20, 21 are foreseen to go, 22, 23 if J is below 0");
        for (int j : new int[] {-1, -2, -20, 0, 1, 2, 3, 20}) {
            boolean back = j < 0;
            behindSlot("20", Code.jump(20, j), false);
            behindSlot("21", Code.jump(21, j), false);
            // FLAG is 0: 22 does not go, 23 goes.
            behindSlot("22 with J " + j, Code.jump(22, j), back);
            behindSlot("23 with J " + j, Code.jump(23, j), !back);
        }
        behindSlot("22 with the least J", Code.jump(22, LEAST_J), true);
        behindSlot("23 with the least J", Code.jump(23, LEAST_J), false);
        behindSlot("22 with the greatest J", Code.jump(22, MOST_J), false);
        behindSlot("23 with the greatest J", Code.jump(23, MOST_J), true);
        // With FLAG it is the other way round.
        for (int j : new int[] {-1, 0, 1}) {
            for (int op = 22; op < 24; op++) {
                Bench bench = code();
                bench.special(0, 2, 33).put(Code.jump(op, j), N).halts().run(40);
                boolean redirected = (j < 0) != (op == 22);
                Check.due("F behind " + op + " with J " + j, bench.x.eventOf(3, 6),
                        redirected ? 11 : 8);
            }
        }
    }

    /** F of what is behind the slot of a branch that is issued in cycle 3. */
    private static void behindSlot(String name, int branch, boolean redirected) {
        Bench bench = code(branch, N).halts();
        bench.run(40).times(name, 0, 1, 3, 6, 1, 4, 7);
        Check.due(name + ": F behind the slot", bench.x.eventOf(2, 6), redirected ? 5 : 2);
    }

    private static void notForeseen() {
        Check.sentence("TIMES", "24, 25 are not foreseen");
        for (int op = 24; op < 26; op++) {
            behindSlot("to another place", Code.abd(op, 0, 0, 5), true);
            behindSlot("to the place behind the slot", Code.abd(op, 0, 0, 6), true);
            behindSlot("to 0", Code.abd(op, 0, 0, 0), true);
            // Their bits are no J.
            behindSlot("with all other bits", Code.abd(op, 31, 31, 5) | 2047, true);
        }
    }

    private static void wentOtherwise() {
        Check.sentence("TIMES", "The instruction behind a SLOT is REDIRECTED if its BRANCH r was not"
                + " foreseen, or went otherwise");
        for (int op = 20; op < 26; op++) {
            for (int flag = 0; flag <= 32; flag += 32) {
                for (int j : new int[] {-3, 0, 3}) {
                    boolean foreseen = op < 22 || j < 0;
                    boolean goes = op == 22 ? flag != 0 : op != 23 || flag == 0;
                    boolean redirected = op > 23 || foreseen != goes;
                    int branch = op > 23 ? Code.abd(op, 0, 0, 5) : Code.jump(op, j);
                    Bench bench = code();
                    bench.special(0, 2, 1 | flag).put(branch, N, N, N).halts().at(400).put(N, N);
                    bench.at(248).put(N, N).run(40);
                    String name = op + " with J " + j + " and FLAG " + flag;
                    bench.times(name, 1, 7, 9, 12, 7, 10, 13);
                    Check.due(name + ": F behind the slot", bench.x.eventOf(3, 6), redirected ? 11 : 8);
                }
            }
        }
    }

    private static void twoBehindTheBranch() {
        Check.sentence("TIMES", "F is T of r and 2, or more");
        times("T of r is 3", words(Code.jump(23, 20), N), 1, 3, 6, 1, 4, 7, 5, 7, 10);
        times("T of r is 4", words(N, N, Code.jump(23, 20), N),
                1, 3, 6, 1, 3, 6, 2, 4, 7, 2, 5, 8, 6, 8, 11);
        times("T of r is 6", words(Code.abd(8, 1, 9, 9), Code.abd(24, 0, 0, 1), N),
                1, 3, 8, 1, 6, 9, 2, 7, 10, 8, 10, 13);
        // The slot is late, but it is T of the branch that counts.
        times("a late slot", words(DIVIDE, Code.jump(23, 20), use(1)),
                1, 3, 23, 1, 3, 23, 2, 21, 24, 5, 21, 24);
    }

    private static void behindExceptions() {
        Check.sentence("TIMES", "One behind an exception");
        times("of a LOAD", words(BAD_LOAD), 1, 3, 6, 7, 9, 12);
        times("of the second", words(N, BAD_LOAD), 1, 3, 6, 1, 3, 7, 8, 10, 13);
        times("of a branch in a slot", words(Code.jump(20, 8), Code.jump(20, 8)),
                1, 3, 6, 1, 4, 7, 8, 10, 13);
        times("in the slot of a branch that went otherwise", words(Code.jump(23, 8), BAD_LOAD),
                1, 3, 6, 1, 4, 7, 8, 10, 13);
        Bench divide = code();
        divide.special(0, 2, 513).put(Code.abd(9, 3, 9, 0)).halts();
        divide.run(60).times("of a DIVIDE", 1, 7, 9, 29, 30, 32, 35);
        // Where the next one lies just behind, at 256 * e.
        Bench behind = code();
        behind.at(256).put(Code.abd(24, 0, 0, 5), N).at(1532).put(BAD_LOAD).halts();
        behind.x.setRegister(5, 1532);
        behind.run(40).times("which goes to the address behind", 2, 5, 7, 10, 11, 13, 16);
        behind.event("which goes to the address behind", 2, 1532, 6);
        behind.event("which goes to the address behind", 3, 1536, 0);
    }

    private static void behindSingles() {
        Check.sentence("TIMES", "or a SINGLE instruction, is REDIRECTED: F is above its C");
        times("two READs", words(Code.read(1, 0), Code.read(2, 0)), 1, 3, 6, 7, 9, 12, 13, 15, 18);
        times("a WRITE", words(Code.write(6, 0), N, N), 1, 3, 6, 7, 9, 12, 7, 9, 12);
        times("behind a slow one", words(Code.abd(8, 1, 9, 9), Code.read(2, 0), N),
                1, 3, 8, 1, 9, 12, 13, 15, 18);
        times("in a slot", words(Code.jump(20, 8), Code.read(1, 0)), 1, 3, 6, 1, 7, 10, 11, 13, 16);
        times("in a slot whose branch went otherwise", words(Code.jump(23, 8), Code.read(1, 0)),
                1, 3, 6, 1, 7, 10, 11, 13, 16);
        Bench back = code();
        back.special(1, 1, 268).special(2, 2, 1).put(Code.back(), N, N).halts();
        back.run(60).times("RETURN to the address behind", 2, 13, 15, 18, 19, 21, 24, 19, 21, 24);
    }

    // ---- ISSUE

    private static void twoBehindFetch() {
        Check.sentence("TIMES", "T is F + 2 or more");
        times("the first", words(N), 1, 3, 6);
        times("behind a SINGLE one", words(Code.read(1, 0), N), 1, 3, 6, 7, 9, 12);
        times("REDIRECTED", words(Code.jump(23, 8), N), 1, 3, 6, 1, 4, 7, 5, 7, 10);
    }

    private static void threeAtOnce() {
        Check.sentence("TIMES", "that only if these two make a PAIR, and the one ahead of these two has"
                + " a lesser T");
        // All behind the one that waits until 21 are fetched long before: still not three at once.
        times("no three at once", words(DIVIDE, use(1), N, N, N, N),
                1, 3, 23, 1, 21, 24, 2, 21, 24, 2, 22, 25, 3, 22, 25, 3, 23, 26);
        times("no three at once", words(N, DIVIDE, N, use(1), N, N),
                1, 3, 6, 1, 3, 23, 2, 4, 23, 2, 21, 24, 3, 21, 24, 3, 22, 25);
        times("no PAIR", words(DIVIDE, use(1), Code.imm(26, 2, 8, 0), Code.imm(26, 3, 8, 0), N),
                1, 3, 23, 1, 21, 24, 2, 21, 24, 2, 22, 25, 3, 22, 25);
        times("a slot is no PAIR with its branch", words(Code.jump(20, 8), N, N),
                1, 3, 6, 1, 4, 7, 2, 4, 7);
    }

    /**
     * A second instruction, with more and more of nothing between: it would be issued in cycle
     * 3 + k / 2 and has to wait until it may.
     */
    private static void awaits(int first, int second, int ready) {
        for (int k = 1; k <= 2 * ready - 3; k++) {
            Bench bench = code(first);
            for (int between = 1; between < k; between++) {
                bench.put(N);
            }
            bench.put(second, N, N, N, N, N, N, N, N).run(60);
            Check.due((second >>> 26) + " is " + k + " behind " + (first >>> 26) + ": T",
                    bench.x.eventOf(k, 7), Math.max(3 + k / 2, ready));
        }
    }

    private static void delayOfOne() {
        Check.sentence("TIMES", "DELAY: 1");
        int[] ops = {0, 1, 2, 3, 4, 5, 6, 7, 10, 11, 12, 13, 14, 15, 16, 17, 34, 35, 41, 42, 43, 44, 45,
            46, 47, 48, 49, 50};
        for (int op : ops) {
            awaits(Code.abd(op, 1, 9, 9), use(1), 4);
            awaits(Code.abd(op, 31, 9, 9), use(31), 4);
        }
    }

    private static void delayOfLoads() {
        Check.sentence("TIMES", "LOADS 2");
        for (int op : new int[] {26, 27, 51, 52, 53}) {
            awaits(Code.imm(op, 1, 8, 0), use(1), 5);
            awaits(Code.imm(op, 1, 8, 0), Code.imm(28, 1, 8, 4), 5);
            awaits(Code.imm(op, 1, 8, 0), Code.abd(24, 0, 0, 1), 5);
        }
    }

    private static void delayOfMultiplies() {
        Check.sentence("TIMES", "MULTIPLY (8, 36, 38, 39, 40, 57) 3");
        for (int op : new int[] {8, 36, 57}) {
            awaits(Code.abd(op, 1, 9, 9), use(1), 6);
            awaits(Code.abd(op, 1, 9, 9), Code.abd(8, 2, 1, 9), 6);
        }
        for (int op = 38; op < 41; op++) {
            awaits(Code.abd(op, 1, 9, 9), use(1), 3);
        }
    }

    private static void delayOfDivides() {
        Check.sentence("TIMES", "DIVIDE (9, 37) 18");
        awaits(Code.abd(9, 1, 9, 9), use(1), 21);
        awaits(Code.abd(37, 1, 9, 9), use(1), 21);
        awaits(Code.abd(37, 1, 9, 9), Code.abd(46, 2, 0, 1), 21);
        awaits(Code.abd(9, 1, 9, 9), use(2), 3);
    }

    private static void registerZeroIsNotAwaited() {
        Check.sentence("TIMES", "For each register (but 0)");
        awaits(Code.abd(0, 0, 9, 9), use(0), 3);
        awaits(Code.imm(26, 0, 8, 0), use(0), 3);
        awaits(Code.abd(8, 0, 9, 9), Code.abd(2, 2, 0, 0), 3);
        awaits(Code.abd(9, 0, 9, 9), use(0), 3);
        awaits(Code.abd(9, 0, 9, 9), Code.imm(28, 0, 8, 0), 3);
        // Register 31 is one like others.
        awaits(Code.abd(9, 31, 9, 9), use(31), 21);
    }

    private static void othersAreNotAwaited() {
        Check.sentence("TIMES", "that it reads: T of the one that wrote it last");
        int[] firsts = {Code.abd(18, 1, 9, 9), Code.abd(36, 1, 9, 9), Code.abd(38, 1, 9, 9),
            Code.abd(9, 1, 9, 9), Code.abd(37, 1, 9, 9), Code.imm(26, 1, 8, 0)};
        for (int first : firsts) {
            for (int register = 2; register < 32; register++) {
                second("register " + register, first, use(register), 3);
            }
        }
        second("a DIVIDE is no sum", DIVIDE, TAKE_SUM, 3);
        second("a sum is no DIVIDE", Code.abd(38, 0, 9, 9), DIVIDE, 4);
        second("a STORE writes no register", Code.imm(28, 1, 8, 0), use(1), 3);
        second("a COMPARE writes no register", Code.abd(18, 1, 0, 0), use(1), 3);
    }

    private static void flagIsAwaited() {
        Check.sentence("TIMES", "and FLAG (22, 23, 46)");
        for (int op = 18; op < 20; op++) {
            for (int d = 0; d < 10; d++) {
                awaits(Code.abd(op, d, 9, 9), Code.abd(46, 2, 0, 0), 4);
            }
            awaits(Code.abd(op, 0, 9, 9), Code.jump(22, 1), 4);
            awaits(Code.abd(op, 0, 9, 9), Code.jump(23, 1), 4);
            awaits(Code.abd(op, 0, 9, 9), Code.jump(20, 1), 3);
            awaits(Code.abd(op, 0, 9, 9), Code.abd(34, 2, 0, 0), 3);
        }
    }

    private static void carryIsAwaited() {
        Check.sentence("TIMES", "and CARRY (34, 35), that it reads");
        for (int reader = 34; reader < 36; reader++) {
            int reads = Code.abd(reader, 2, 0, 0);
            for (int op : new int[] {0, 1, 10, 34, 35}) {
                awaits(Code.abd(op, 1, 9, 9), reads, 4);
            }
            awaits(Code.abd(36, 1, 9, 9), reads, 6);
            awaits(Code.abd(37, 1, 9, 9), reads, 21);
            for (int op : new int[] {2, 8, 9, 18, 41, 57}) {
                awaits(Code.abd(op, 1, 9, 9), reads, 3);
            }
            // Written in vain to register 0, but CARRY is written.
            awaits(Code.abd(37, 0, 9, 9), reads, 21);
        }
        awaits(Code.abd(37, 1, 9, 9), Code.abd(0, 2, 0, 0), 3);
    }

    private static void lastWriterIsAwaited() {
        Check.sentence("TIMES", "T of the one that wrote it last");
        int load = Code.imm(26, 1, 8, 0);
        int set = Code.imm(10, 1, 0, 1);
        times("the last is fast", words(load, set, use(1)), 1, 3, 6, 1, 3, 6, 2, 4, 7);
        times("the last is slow", words(set, load, use(1)), 1, 3, 6, 1, 3, 6, 2, 5, 8);
        times("a DIVIDE and then another", words(DIVIDE, set, use(1)), 1, 3, 23, 1, 3, 23, 2, 4, 24);
        times("CARRY", words(Code.abd(37, 1, 9, 9), set, Code.abd(34, 2, 0, 0)),
                1, 3, 23, 1, 3, 23, 2, 4, 24);
    }

    private static void retiredWritersAreAwaited() {
        Check.sentence("TIMES", "of those that were RETIRED, and its DELAY, or more");
        // Behind the exception, at 256 * e, the register that it has not written is read at once.
        int[][] cases = {{BAD_LOAD, 6, 3}, {Code.abd(8, 1, 4, 4), 11, 5}, {Code.abd(9, 1, 9, 0), 11, 20},
            {Code.abd(0, 1, 4, 4), 11, 3}};
        for (int[] one : cases) {
            Bench bench = code();
            bench.register(4, 1 << 30).special(0, 2, 513).put(one[0]).halts();
            bench.at(256 * one[1]).put(use(1), use(1)).run(60);
            int c = 9 + one[2];
            bench.event("not RETIRED", 1, 260, one[1]);
            bench.times("not RETIRED", 1, 7, 9, c, c + 1, c + 3, c + 6, c + 1, c + 3, c + 6);
        }
    }

    private static void dividesAfterDivides() {
        Check.sentence("TIMES", "A DIVIDE is also 18 or more behind T of the DIVIDE before");
        for (int first : new int[] {9, 37}) {
            for (int second : new int[] {9, 37}) {
                awaits(Code.abd(first, 1, 9, 9), Code.abd(second, 2, 9, 9), 21);
                awaits(Code.abd(first, 0, 9, 9), Code.abd(second, 0, 9, 9), 21);
            }
            awaits(Code.abd(8, 1, 9, 9), Code.abd(first, 2, 9, 9), 3 + 1);
        }
        times("three of them", words(DIVIDE, Code.abd(37, 2, 9, 9), Code.abd(9, 3, 9, 9)),
                1, 3, 23, 1, 21, 41, 2, 39, 59);
    }

    private static void sumsAreAwaited() {
        Check.sentence("TIMES", "41 is 3 or more behind T of the latest 38, 39, 40 that was RETIRED");
        for (int op = 38; op < 41; op++) {
            awaits(Code.abd(op, 0, 9, 9), TAKE_SUM, 6);
            awaits(Code.abd(op, 0, 9, 9), Code.abd(41, 0, 0, 0), 6);
        }
        for (int op : new int[] {8, 36, 57, 9, 37, 41}) {
            awaits(Code.abd(op, 1, 9, 9), TAKE_SUM, 3);
        }
        times("the latest of two", words(Code.abd(38, 0, 9, 9), Code.abd(40, 0, 9, 9), TAKE_SUM),
                1, 3, 8, 1, 4, 9, 2, 7, 10);
    }

    private static void singlesAwaitTheOneBefore() {
        Check.sentence("TIMES", "and words that are none: T is above C of the one before");
        int[] singles = {Code.read(1, 0), Code.write(6, 0), Code.sys(), Code.back(), Code.trap(),
            Code.abd(58, 0, 0, 0), Code.abd(63, 31, 31, 31), Code.abd(18, 10, 0, 0),
            Code.abd(19, 31, 0, 0)};
        for (int single : singles) {
            String name = "SINGLE " + Integer.toHexString(single);
            times(name, words(single), 1, 3, 6, 7, 9, 12);
            times(name, words(N, single), 1, 3, 6, 1, 7, 10, 11, 13, 16);
            times(name, words(N, N, single), 1, 3, 6, 1, 3, 6, 2, 7, 10, 11, 13, 16);
            times(name, words(Code.abd(8, 1, 9, 9), single), 1, 3, 8, 1, 9, 12, 13, 15, 18);
            times(name, words(DIVIDE, single), 1, 3, 23, 1, 24, 27, 28, 30, 33);
        }
        // The greatest COMPARE that is one is not SINGLE.
        times("COMPARE 9", words(N, Code.abd(18, 9, 0, 0)), 1, 3, 6, 1, 3, 6);
        // Not as SUPERVISOR they are SINGLE, too.
        for (int single : new int[] {Code.read(1, 0), Code.write(6, 0), Code.back()}) {
            Bench user = code();
            user.special(0, 2, 0).put(N, single).halts().run(60);
            user.times("as a user", 1, 7, 9, 12, 7, 13, 16, 17, 19, 22);
            user.event("as a user", 2, 264, 7);
        }
    }

    private static void singlesWithAnyException() {
        Check.sentence("TIMES", "SINGLE are 30, 31, 32, 33, 56 (whichever EXCEPTION they have)");
        int[] singles = {Code.read(1, 0), Code.write(6, 0), Code.sys(), Code.back(), Code.trap()};
        for (int single : singles) {
            String name = Integer.toHexString(single);
            // Exceptions 5 and 8, at the second of a group that is fetched in 13.
            for (int exception = 5; exception <= 8; exception += 3) {
                boolean timer = exception == 5;
                Bench bench = code();
                bench.lines(3, 1).special(timer ? 5 : 6, 1, timer ? 1 << 29 | 3 : 1);
                bench.special(0, 2, timer ? 3 : 5).put(N, single).halts().run(60);
                bench.event(name, 3, 268, exception);
                bench.times(name, 2, 13, 15, 18, 13, 19, 22, 23, 25, 28);
            }
            // As a user, and in a slot.
            Bench user = code();
            user.special(0, 2, 0).put(N, single).halts().run(60);
            user.times(name + " of a user", 1, 7, 9, 12, 7, 13, 16, 17, 19, 22);
            times(name + " in a slot", words(Code.jump(20, 8), single), 1, 3, 6, 1, 7, 10, 11, 13, 16);
        }
    }

    // ---- PAIR

    private static boolean has(int op, int... all) {
        for (int one : all) {
            if (one == op) {
                return true;
            }
        }
        return false;
    }

    private static void pairs() {
        Check.sentence("TIMES", "PAIR: neither is SINGLE; the first is no BRANCH; not both are LOADS or"
                + " STORES; not both are MULTIPLY or DIVIDE");
        for (int first = 0; first < 58; first++) {
            for (int second = 0; second < 58; second++) {
                boolean single = has(first, 30, 31, 32, 33, 56) || has(second, 30, 31, 32, 33, 56);
                boolean branch = first >= 20 && first <= 25;
                if (single || branch) {
                    pairIs(first, second, false);
                    continue;
                }
                boolean accesses = has(first, 26, 27, 28, 29, 51, 52, 53, 54)
                        && has(second, 26, 27, 28, 29, 51, 52, 53, 54);
                boolean products = has(first, 8, 9, 36, 37, 38, 39, 40, 57)
                        && has(second, 8, 9, 36, 37, 38, 39, 40, 57);
                boolean flag = has(first, 18, 19) && has(second, 22, 23, 46);
                boolean carry = has(first, 0, 1, 10, 34, 35, 36, 37) && has(second, 34, 35);
                boolean sum = has(first, 38, 39, 40) && second == 41;
                pairIs(first, second, !accesses && !products && !flag && !carry && !sum);
            }
        }
    }

    /** Whether two with no register in common are issued at once. */
    private static void pairIs(int first, int second, boolean due) {
        Bench bench = new Bench();
        bench.register(8, 40000).register(9, 40000);
        bench.put(Code.abd(first, 1, 8, 8), Code.abd(second, 2, 9, 9)).run(60);
        boolean atOnce = bench.x.eventOf(0, 7) == bench.x.eventOf(1, 7);
        Check.due(first + " and " + second + " at once", atOnce, due);
    }

    private static void pairsWithRegisters() {
        Check.sentence("TIMES", "the second reads no register (but 0)");
        int set = Code.imm(14, 1, 0, 1);
        int[] readA = {0, 1, 2, 3, 4, 5, 6, 7, 8, 9, 10, 11, 12, 13, 15, 16, 17, 18, 19, 26, 27, 28,
            29, 34, 35, 36, 37, 38, 39, 40, 42, 43, 44, 45, 46, 47, 48, 49, 50, 51, 52, 53, 54, 57};
        int[] readB = {0, 1, 2, 3, 4, 5, 6, 7, 8, 9, 18, 24, 25, 34, 36, 37, 38, 40, 46, 49};
        int[] readD = {28, 29, 54};
        for (int op = 0; op < 58; op++) {
            if (has(op, 30, 31, 32, 33, 56)) {
                continue;
            }
            second("A of " + op, set, Code.abd(op, 2, 1, 3), has(op, readA) ? 4 : 3);
            second("B of " + op, set, Code.abd(op, 2, 3, 1), has(op, readB) ? 4 : 3);
            second("D of " + op, set, Code.abd(op, 1, 3, 2), has(op, readD) ? 4 : 3);
            second("register 0 of " + op, Code.imm(14, 0, 0, 1), Code.abd(op, 2, 0, 0), 3);
        }
    }

    private static void pairsWithFlagAndCarry() {
        Check.sentence("TIMES", "no FLAG and no CARRY that the first writes");
        int[] flagReaders = {Code.jump(22, 8), Code.jump(23, 8), Code.abd(46, 2, 0, 0)};
        int[] carryReaders = {Code.abd(34, 2, 0, 0), Code.abd(35, 2, 0, 0)};
        for (int op = 0; op < 58; op++) {
            if (has(op, 20, 21, 22, 23, 24, 25, 30, 31, 32, 33, 56)) {
                continue;
            }
            int first = Code.abd(op, 1, 8, 8);
            for (int reader : flagReaders) {
                second("FLAG of " + op, first, reader, has(op, 18, 19) ? 4 : 3);
            }
            for (int reader : carryReaders) {
                int due = has(op, 0, 1, 10, 34, 35) ? 4 : op == 36 ? 6 : op == 37 ? 21 : 3;
                second("CARRY of " + op, first, reader, due);
            }
        }
        // The other way round, what is read is written by the second.
        second("46 and a COMPARE", Code.abd(46, 2, 0, 0), Code.abd(18, 0, 0, 0), 3);
        second("34 and a SUB", Code.abd(34, 2, 0, 0), Code.abd(1, 3, 0, 0), 3);
    }

    private static void pairsWithSum() {
        Check.sentence("TIMES", "not 41 behind 38, 39, 40");
        for (int op : new int[] {38, 39, 40}) {
            second("41 behind " + op, Code.abd(op, 0, 9, 9), TAKE_SUM, 6);
            second(op + " behind 41", TAKE_SUM, Code.abd(op, 0, 9, 9), 3);
        }
        for (int op : new int[] {8, 36, 57, 0, 55}) {
            second("41 behind " + op, Code.abd(op, 1, 9, 9), TAKE_SUM, 3);
        }
        second("41 behind 41", Code.abd(41, 1, 0, 0), TAKE_SUM, 3);
    }

    /** When the second of two is issued. */
    private static void second(String name, int first, int second, int due) {
        Bench bench = code(first, second);
        bench.halts().run(40);
        Check.due(name + ": T", bench.x.eventOf(1, 7), due);
    }

    // ---- EVENT

    private static void eventsOfSlowOnes() {
        Check.sentence("TIMES", "C is T + 3 or more, T + 5 for MULTIPLY, T + 20 for DIVIDE");
        for (int op = 0; op < 58; op++) {
            Bench bench = code(Code.abd(op, 1, 8, 9));
            bench.run(40);
            int due = has(op, 8, 36, 38, 39, 40, 57) ? 8 : has(op, 9, 37) ? 23 : 6;
            Check.due("C of " + op, bench.x.eventOf(0, 0), due);
        }
    }

    private static void eventsInOrder() {
        Check.sentence("TIMES", "C of the one before or more, above C of the one ahead of that");
        times("behind a MULTIPLY", words(Code.abd(8, 1, 9, 9), N, N, N, N),
                1, 3, 8, 1, 3, 8, 2, 4, 9, 2, 4, 9, 3, 5, 10);
        times("behind a DIVIDE", words(DIVIDE, N, N, N, N),
                1, 3, 23, 1, 3, 23, 2, 4, 24, 2, 4, 24, 3, 5, 25);
        times("a DIVIDE that is second", words(N, DIVIDE, N, N, N),
                1, 3, 6, 1, 3, 23, 2, 4, 23, 2, 4, 24, 3, 5, 24);
    }

    private static void eventsOfExceptions() {
        Check.sentence("TIMES", "for an EXCEPTION above C of the one before");
        times("of the first", words(BAD_LOAD), 1, 3, 6);
        times("of the second", words(N, BAD_LOAD), 1, 3, 6, 1, 3, 7);
        times("of the third", words(N, N, BAD_LOAD), 1, 3, 6, 1, 3, 6, 2, 4, 7);
        times("behind a MULTIPLY", words(Code.abd(8, 1, 9, 9), BAD_LOAD), 1, 3, 8, 1, 3, 9);
        times("behind a DIVIDE", words(DIVIDE, BAD_LOAD), 1, 3, 23, 1, 3, 24);
        times("behind a DIVIDE and one", words(DIVIDE, N, BAD_LOAD), 1, 3, 23, 1, 3, 23, 2, 4, 24);
        times("no exception", words(N, Code.imm(26, 1, 8, 0)), 1, 3, 6, 1, 3, 6);
    }

    private static void unreadable() {
        Check.sentence("TIMES", "reads and writes nothing and is none of the kinds above, whichever"
                + " EXCEPTION it has");
        // Not what a DIVIDE reads that writes its own register, just ahead of it.
        Bench odd = code(Code.abd(24, 0, 0, 1), Code.abd(9, 9, 9, 9));
        odd.register(1, 402).halts().run(60);
        odd.times("not aligned", 0, 1, 3, 6, 1, 4, 24, 5, 7, 25, 26, 28, 31);
        odd.event("not aligned", 2, 402, 6);
        // PERIOD is such that PENDING is set by the last word of CODE, or is not.
        for (int period = 5; period < 7; period++) {
            Bench end = code();
            end.special(5, 1, 1 << 29 | period).special(1, 2, 32764).special(2, 3, 3);
            end.put(Code.back()).halts().at(32764).put(N).run(60);
            end.event("behind CODE", 5, 32768, period == 5 ? 5 : 2);
            end.times("behind CODE", 4, 25, 27, 30, 25, 27, 31, 32, 34, 37);
        }
    }

    private static void unreadableForAnyCause() {
        Check.sentence("TIMES", "An instruction that can not be read (for what 2, 4, 6, 10 of code are)");
        // Not a SINGLE one or a DIVIDE, whatever lies where it might be looked for.
        for (int word : new int[] {Code.abd(9, 1, 9, 9), Code.abd(8, 1, 9, 9), Code.read(1, 0)}) {
            unreadableAt(word, 0, 402, 6);
            unreadableAt(word, 0, 32768, 2);
            unreadableAt(word, 0, 65536, 2);
            unreadableAt(word, 0, -4, 2);
            unreadableAt(word, 5121, 5120 + 16, 4);
            unreadableAt(word, 5120, 5120 + 16, 10);
        }
    }

    /** It is come to by RETURN, with a map of its page that has a place, but lets nobody in. */
    private static void unreadableAt(int word, int match, int address, int due) {
        Bench bench = new Bench();
        for (int place : new int[] {0, 400, 404, 5136, 8192 + 16, 32768, 65512, 65516, 65520, 65524,
            65528, 65532}) {
            bench.at(place).put(word);
        }
        bench.at(256).special(1024 + 5, 1, match).special(1152 + 5, 2, 8192);
        bench.special(1, 3, address).special(2, 4, match == 0 ? 1 : 17).put(Code.back()).halts();
        bench.run(60).event("unreadable", 5, address, due);
        bench.times("unreadable", 5, 31, 33, 36, 37, 39, 42);
    }

    private static void asTheInstructionThere() {
        Check.sentence("TIMES", "One that has another EXCEPTION, 5 and 8, too, has its TIMES as the"
                + " instruction that is read there");
        // T and C of the one behind the one that sets PENDING; both are fetched in 13.
        int[][] seconds = {
            {N, 15, 19}, {use(3), 16, 19}, {Code.abd(8, 4, 9, 9), 15, 20}, {Code.abd(38, 4, 9, 9), 15, 20},
            {Code.abd(9, 4, 9, 9), 15, 35}, {Code.abd(37, 4, 9, 9), 15, 35}, {Code.read(4, 0), 19, 22},
            {Code.sys(), 19, 22}, {Code.trap(), 19, 22}, {Code.abd(63, 0, 0, 0), 19, 22},
            {Code.abd(18, 10, 0, 0), 19, 22}, {Code.abd(34, 4, 0, 0), 16, 19}, {Code.jump(20, 8), 15, 19},
            {Code.imm(28, 3, 8, 0), 16, 19}, {Code.imm(26, 4, 8, 1), 15, 19},
        };
        for (int exception = 5; exception <= 8; exception += 3) {
            boolean timer = exception == 5;
            for (int[] one : seconds) {
                Bench bench = code();
                bench.lines(3, 1).special(timer ? 5 : 6, 1, timer ? 1 << 29 | 3 : 1);
                bench.special(0, 2, timer ? 3 : 5).put(Code.imm(10, 3, 0, 1), one[0]).halts().run(60);
                String name = "exception " + exception + " at " + Integer.toHexString(one[0]);
                bench.event(name, 3, 268, exception);
                bench.times(name, 2, 13, 15, 18, 13, one[1], one[2], one[2] + 1, one[2] + 3, one[2] + 6);
            }
        }
    }

    private static void slowOnesWithExceptions() {
        Check.sentence("TIMES", "(the 5 of a MULTIPLY and the 20 of a DIVIDE, too)");
        int[][] slow = {{Code.abd(8, 3, 1, 1), 5}, {Code.abd(57, 3, 1, 1) | 2047, 5},
            {Code.abd(9, 3, 1, 0), 20}};
        for (int[] one : slow) {
            Bench bench = code();
            bench.register(1, 1 << 30).special(0, 2, 513).put(one[0]).halts().run(60);
            bench.event("exception 11", 1, 260, 11);
            bench.times("exception 11", 1, 7, 9, 9 + one[1], 10 + one[1], 12 + one[1], 15 + one[1]);
        }
    }

    private static void writtenForNobody() {
        Check.sentence("TIMES", "what it would have written counts for nobody");
        // PENDING is there at the first of the two; the handler reads what it would have written.
        int[][] cases = {
            {Code.abd(9, 1, 9, 9), use(1), 20}, {Code.abd(37, 1, 9, 9), Code.abd(34, 2, 0, 0), 20},
            {Code.abd(37, 1, 9, 9), Code.abd(9, 2, 9, 9), 20}, {Code.abd(38, 0, 9, 9), TAKE_SUM, 5},
            {Code.abd(36, 1, 9, 9), Code.abd(35, 2, 0, 0), 5}, {Code.imm(26, 1, 8, 0), use(1), 3},
            {Code.abd(18, 0, 0, 0), Code.abd(46, 2, 0, 0), 3}, {Code.jump(21, 9), use(31), 3},
        };
        for (int[] one : cases) {
            Bench bench = code();
            bench.special(5, 1, 1 << 28).special(0, 2, 3).put(one[0], N).halts();
            bench.at(1280).put(one[1], N).run(80);
            int c = 15 + one[2];
            String name = Integer.toHexString(one[0]);
            bench.event(name, 2, 264, 5);
            bench.times(name, 2, 13, 15, c);
            Check.due(name + ": F behind it", bench.x.eventOf(3, 6), c + 1);
            Check.due(name + ": T behind it", bench.x.eventOf(3, 7), c + 3);
        }
    }
}
