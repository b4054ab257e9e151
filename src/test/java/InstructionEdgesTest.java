/**
 * One test of its own for each sentence of WORDS, MEMORY, THE STATE and INSTRUCTIONS that names an
 * edge: the least and the greatest word, a wrap-around, a number that is none.
 */
public final class InstructionEdgesTest {
    private static final int LEAST = Integer.MIN_VALUE;
    private static final int MOST = Integer.MAX_VALUE;
    private static final int FLAG = OneWord.FLAG;
    private static final int CARRY = OneWord.CARRY;
    private static final int OVERFLOW = OneWord.OVERFLOW;
    private static final int ALL = FLAG | CARRY | OVERFLOW;

    private InstructionEdgesTest() {
    }

    public static void main(String[] args) {
        wordsGoRound();
        addressesGoRound();
        memoryEnds();
        codeStays();
        bytesOfAWord();
        registerZero();
        bitsOfSr();
        bitsOfCount();
        bitsOfTimer();
        sumGoesRound();
        partsOfSum();
        statusOfBothKinds();
        shiftsByRegister();
        shiftsByNumber();
        quotients();
        lowHalves();
        highHalves();
        comparesWithoutSigns();
        comparesWithSigns();
        comparesThatAreNone();
        carryIsAdded();
        carryOfNumbers();
        withoutSigns();
        sumsOfProducts();
        sumIsTaken();
        partsWithSign();
        partsWithout();
        choices();
        placesOfBits();
        rotations();
        carryOfSums();
        carryOfDifferences();
        carryOfProducts();
        carryOfQuotients();
        overflowOfSums();
        overflowOfProducts();
        overflowOfQuotients();
        rangeOn();
        bitsOfJ();
        targets();
        jumpsThatStay();
        callsWriteLink();
        loads();
        stores();
        readsOfNone();
        writesOfNone();
        writesOfStatus();
        bitsThatStayZero();
        onlyAsSupervisor();
        otherWords();
        branchesInSlots();
        slotBitIsButABit();
        allBitsAreWritten();
        returns();
        nothing();
        Check.end("InstructionEdgesTest");
    }

    // ---- WORDS and MEMORY

    private static void wordsGoRound() {
        Check.sentence("WORDS", "are taken modulo 2^32");
        OneWord.of(0, MOST, 1).gives(0, LEAST, OVERFLOW);
        OneWord.of(0, LEAST, LEAST).gives(0, 0, CARRY | OVERFLOW);
        OneWord.of(0, -1, 1).gives(0, 0, CARRY);
        OneWord.of(1, LEAST, 1).gives(0, MOST, OVERFLOW);
        OneWord.of(1, 0, LEAST).gives(0, LEAST, CARRY | OVERFLOW);
        OneWord.withLow(10, MOST, 1).gives(0, LEAST, OVERFLOW);
        OneWord.withLow(10, LEAST, -1).gives(0, MOST, CARRY | OVERFLOW);
        OneWord.of(34, -1, 0).gives(CARRY, 0, CARRY);
        OneWord.withLow(35, MOST, 0).gives(CARRY, LEAST, OVERFLOW);
        OneWord.of(8, MOST, MOST).gives(0, 1, OVERFLOW);
        OneWord.of(8, 65536, 65536).gives(0, 0, OVERFLOW);
        OneWord.withLow(57, LEAST, -1).gives(0, LEAST, OVERFLOW);
        OneWord.withLow(57, MOST, 0x7FFF).gives(0, 0x7FFF8001, OVERFLOW);
        OneWord.of(36, -1, -1).gives(0, 1, CARRY);
    }

    private static void addressesGoRound() {
        Check.sentence("WORDS", "An ADDRESS is a word without a sign");
        Bench over = new Bench();
        over.at(4).put(77).at(256).register(1, -4).put(Code.imm(26, 3, 1, 8)).halts().run(20);
        over.register("-4 and 8 is 4", 3, 77);
        Bench below = new Bench();
        below.register(1, 4).put(Code.imm(26, 3, 1, -8)).halts().run(20);
        below.event("4 less 8 is far away", 0, 256, 2);
        below.special("EEA", 3, -4);
        Bench far = new Bench();
        far.register(1, LEAST).put(Code.imm(28, 3, 1, -32768)).halts().run(20);
        far.event("2^31 less 2^15", 0, 256, 2);
        far.special("EEA", 3, LEAST - 32768);
        // In the last page of all addresses PC goes on to 0, and what is reckoned from it goes round.
        Bench last = lastPage(0xFFFFFFF8, Code.nothing(), Code.nothing());
        last.event("PC", 7, 0xFFFFFFF8, 0);
        last.event("PC", 8, 0xFFFFFFFC, 0);
        last.event("PC behind it", 9, 0, 0);
        last.register("what is there", 9, 5);
        Bench call = lastPage(0xFFFFFFF8, Code.jump(Code.CALL, 4), Code.nothing());
        call.register("PC + 8", 31, 0);
        call.event("TARGET", 9, 8, 0);
        Bench sys = lastPage(0xFFFFFFFC, 0, Code.sys());
        sys.event("SYS", 7, 0xFFFFFFFC, 12);
        sys.special("PC + 4", 1, 0);
        Bench slot = lastPage(0xFFFFFFFC, 0, Code.jump(Code.JUMP, 3));
        slot.event("the slot", 8, 0, 0);
        slot.event("TARGET", 9, 8, 0);
        Check.due("it is a slot", slot.x.eventOf(8, 5), 1);
    }

    /** The last page of addresses is mapped, and page 0, to one behind the other. */
    private static Bench lastPage(int pc, int first, int second) {
        Bench bench = new Bench();
        bench.special(1024 + 15, 1, 0xFFFFFC01).special(1152 + 15, 2, 8192 + 4);
        bench.special(1024, 3, 1).special(1152, 4, 9216 + 4);
        bench.special(1, 5, pc).special(2, 6, 17).put(Code.back()).halts();
        bench.at(9208).put(first, second, Code.imm(10, 9, 0, 5), Code.nothing()).halt();
        return bench.run(100);
    }

    private static void memoryEnds() {
        Check.sentence("MEMORY", "has 65536 bytes, 0 at first");
        int[][] loads = {
            {26, 0, 0}, {26, 65532, 0}, {26, 65536, 2}, {26, -4, 2}, {27, 0, 0}, {27, 65535, 0},
            {27, 65536, 2}, {27, -1, 2}, {51, 65535, 0}, {51, 65536, 2}, {52, 65534, 0},
            {52, 65536, 2}, {53, 65534, 0}, {53, 65536, 2}, {53, -2, 2},
        };
        Bench ends = new Bench();
        ends.at(0).put(0x01020304).at(65532).put(0x05060708).at(256).register(1, 65532);
        ends.put(Code.imm(26, 2, 0, 0), Code.imm(27, 3, 0, 0), Code.imm(53, 4, 0, 0));
        ends.put(Code.imm(26, 5, 1, 0), Code.imm(27, 6, 1, 3), Code.imm(53, 7, 1, 2)).halts().run(30);
        int[] due = {0x01020304, 1, 0x0102, 0x05060708, 8, 0x0708};
        for (int k = 0; k < due.length; k++) {
            ends.register("the ends", 2 + k, due[k]);
        }
        for (int[] one : loads) {
            Bench bench = new Bench();
            bench.register(1, one[1]).register(3, 99).put(Code.imm(one[0], 3, 1, 0)).halts().run(20);
            bench.event("LOAD " + one[0] + " at " + one[1], 0, 256, one[2]);
            bench.register("LOAD " + one[0] + " at " + one[1], 3, one[2] == 0 ? 0 : 99);
        }
        int[][] stores = {
            {28, 65532, 0}, {28, 65536, 2}, {28, -4, 2}, {29, 65535, 0}, {29, 65536, 2}, {29, -1, 2},
            {54, 65534, 0}, {54, 65536, 2}, {54, -2, 2},
        };
        for (int[] one : stores) {
            Bench bench = new Bench();
            bench.register(1, one[1]).register(3, -1).put(Code.imm(one[0], 3, 1, 0)).halts().run(20);
            bench.event("STORE " + one[0] + " at " + one[1], 0, 256, one[2]);
            Check.due("the last word", bench.x.wordAt(65532) != 0, one[2] == 0);
            Check.due("the first word", bench.x.wordAt(0), 0);
        }
    }

    private static void codeStays() {
        Check.sentence("MEMORY", "CODE below 32768, which no program changes, and DATA");
        int[][] cases = {
            {28, 32764, 2}, {28, 32768, 0}, {28, 0, 2}, {29, 32767, 2}, {29, 32768, 0},
            {54, 32766, 2}, {54, 32768, 0},
        };
        for (int[] one : cases) {
            Bench bench = new Bench();
            bench.at(32764).put(7, 7).at(256).register(1, one[1]).register(3, -1);
            bench.put(Code.imm(one[0], 3, 1, 0)).halts().run(20);
            bench.event("STORE " + one[0] + " at " + one[1], 0, 256, one[2]);
            Check.due("the last word of CODE", bench.x.wordAt(32764), 7);
            Check.due("the first of DATA", bench.x.wordAt(32768) == 7, one[2] != 0);
        }
        Bench read = new Bench();
        read.at(32764).put(55).at(256).put(Code.imm(26, 3, 0, 32764)).halts().run(20);
        read.register("but it can be read", 3, 55);
    }

    private static void bytesOfAWord() {
        Check.sentence("MEMORY", "its highest byte first");
        for (int k = 0; k < 4; k++) {
            Bench load = new Bench();
            load.register(1, 40000).at(40000).put(0x01020304).at(256);
            load.put(Code.imm(27, 3, 1, k)).halts().run(20);
            load.register("byte " + k, 3, k + 1);
            Bench store = new Bench();
            store.register(1, 40000).register(3, 0x155).put(Code.imm(29, 3, 1, k)).halts().run(20);
            Check.due("byte " + k, store.x.wordAt(40000), 0x55 << 24 - 8 * k);
        }
        for (int k = 0; k < 4; k += 2) {
            Bench load = new Bench();
            load.register(1, 40000).at(40000).put(0x01020304).at(256);
            load.put(Code.imm(52, 3, 1, k)).halts().run(20);
            load.register("half " + k, 3, k == 0 ? 0x0102 : 0x0304);
        }
    }

    // ---- THE STATE

    private static void registerZero() {
        Check.sentence("THE STATE", "REGISTERS 0 .. 31 (0 is always 0)");
        int[] writers = {0, 1, 3, 4, 5, 6, 7, 8, 9, 10, 12, 13, 14, 15, 16, 17, 26, 27, 30, 34, 35, 36,
            37, 41, 42, 43, 44, 45, 46, 47, 48, 49, 50, 51, 52, 53, 57};
        for (int op : writers) {
            Bench bench = new Bench();
            bench.register(1, 40000).register(2, 7).at(40000).put(-1, -1, -1).at(256);
            bench.put(Code.abd(op, 0, 1, 2) | 4, Code.abd(3, 4, 0, 0)).halts().run(60);
            bench.register("written by " + op, 0, 0);
            bench.register("read behind " + op, 4, 0);
        }
    }

    private static void bitsOfSr() {
        Check.sentence("THE STATE", "all others are 0 always");
        Bench bench = new Bench();
        bench.special(2, 1, -1).special(0, 2, ~(2 + 4 + 8 + 16)).halts().run(40);
        bench.special("ESR", 2, 1023);
        bench.special("SR", 0, 1023 & ~30);
        Bench back = new Bench();
        back.special(2, 1, 0xFFFFFFE1).special(1, 2, 512).put(Code.back()).halts().run(40);
        back.special("SR of RETURN", 0, 0x3E1);
    }

    private static void bitsOfCount() {
        Check.sentence("THE STATE", "4 COUNT (bits 0 .. 27; others 0)");
        Bench bench = new Bench();
        bench.special(4, 1, -1).put(Code.read(3, 4)).halts().run(40);
        bench.special("the greatest", 4, 0x0FFFFFFF);
        bench.register("the greatest", 3, 0x0FFFFFFF);
        Bench none = new Bench();
        none.special(4, 1, 0xF0000000).halts().run(40);
        none.special("none of its bits", 4, 0);
    }

    private static void bitsOfTimer() {
        Check.sentence("THE STATE", "29 and 30 MODE, 0 .. 3; the other one 0");
        int[][] cases = {
            {LEAST, 0}, {0x9FFFFFFF, 0x1FFFFFFF}, {0x0FFFFFFF, 0x0FFFFFFF}, {0x10000000, 0x10000000},
            {0xFFFFFFFF, 0x7FFFFFFF}, {0xA0000005, 0x20000005}, {0xC0000005, 0x40000005},
        };
        for (int[] one : cases) {
            Bench bench = new Bench();
            bench.special(5, 1, one[0]).put(Code.read(3, 5)).run(12);
            bench.special("TIMER of " + one[0], 5, one[1]);
            bench.register("TIMER of " + one[0], 3, one[1]);
        }
    }

    private static void sumGoesRound() {
        Check.sentence("THE STATE", "SUM (64 bits, modulo 2^64)");
        sum(38, 1, 1, -1, -1, 0, 0);
        sum(40, 1, 1, 0, 0, -1, -1);
        sum(38, 1, 1, 0, -1, 1, 0);
        sum(40, 1, 1, 1, 0, 0, -1);
        sum(38, 1, 1, MOST, -1, LEAST, 0);
        sum(40, 1, 1, LEAST, 0, MOST, -1);
        sum(38, LEAST, LEAST, 0, 0, 0x40000000, 0);
        sum(40, LEAST, LEAST, 0, 0, 0xC0000000, 0);
        sum(38, LEAST, MOST, 0, 0, 0xC0000000, LEAST);
    }

    /** SUM is high and low, and then another A * B is more or less. */
    private static void sum(int op, int a, int b, int... highAndLow) {
        Bench bench = new Bench();
        bench.special(10, 4, highAndLow[0]).special(11, 5, highAndLow[1]).register(1, a).register(2, b);
        bench.put(Code.abd(op, 3, 1, 2)).halts().run(40);
        String name = "SUM with " + op + " of " + a + " and " + b;
        bench.special(name, 10, highAndLow[2]);
        bench.special(name, 11, highAndLow[3]);
        bench.special(name, 0, 1);
        bench.register(name, 3, 0);
    }

    private static void partsOfSum() {
        Check.sentence("THE STATE", "10 and 11 the high and the low word of SUM");
        for (int order = 0; order < 2; order++) {
            Bench bench = new Bench();
            bench.special(10 + order, 1, order == 0 ? -5 : -6);
            bench.special(11 - order, 2, order == 0 ? -6 : -5).halts().run(40);
            bench.special("the high word", 10, -5);
            bench.special("the low word", 11, -6);
        }
    }

    private static void statusOfBothKinds() {
        Check.sentence("THE STATE", "STATUS is LINES in those bits that LATCH has not, HELD in those"
                + " that it has");
        // LINES are 12 from 2 on, and HELD is 10 then: it was held when they were 10, at 1.
        int[][] cases = {{0, 12}, {-1, 10 | 12}, {2, 2 | 12}, {4, 12}, {8, 12}, {LEAST, 12}};
        for (int[] one : cases) {
            Bench bench = new Bench();
            bench.lines(1, 10).lines(2, 12).special(9, 1, 10).special(9, 2, one[0]);
            bench.put(Code.read(3, 7)).halts().run(40);
            bench.register("STATUS with LATCH " + one[0], 3, one[1]);
        }
        Bench gone = new Bench();
        gone.lines(1, 10).lines(2, 0).special(9, 1, 10).special(9, 2, 8).put(Code.read(3, 7));
        gone.halts().run(40);
        gone.register("HELD where LATCH is", 3, 8);
        Check.due("HELD itself", gone.x.lookAt(8), 10);
    }

    // ---- INSTRUCTIONS

    private static void shiftsByRegister() {
        Check.sentence("INSTRUCTIONS", "by the lowest five bits of B");
        int word = 0x80000001;
        OneWord.of(5, word, 0).gives(word);
        OneWord.of(5, word, 31).gives(LEAST);
        OneWord.of(5, word, 32).gives(word);
        OneWord.of(5, word, 33).gives(2);
        OneWord.of(5, word, -1).gives(LEAST);
        OneWord.of(5, word, LEAST).gives(word);
        OneWord.of(6, word, 0).gives(word);
        OneWord.of(6, word, 31).gives(1);
        OneWord.of(6, word, 32).gives(word);
        OneWord.of(6, word, 33).gives(0x40000000);
        OneWord.of(6, word, -1).gives(1);
        OneWord.of(7, word, 0).gives(word);
        OneWord.of(7, word, 31).gives(-1);
        OneWord.of(7, word, 32).gives(word);
        OneWord.of(7, word, 33).gives(0xC0000000);
        OneWord.of(7, MOST, -1).gives(0);
    }

    private static void shiftsByNumber() {
        Check.sentence("INSTRUCTIONS", "15, 16, 17 as 5, 6, 7, by the lowest five bits of U");
        int word = 0x80000001;
        OneWord.withLow(15, word, 0).gives(word);
        OneWord.withLow(15, word, 31).gives(LEAST);
        OneWord.withLow(15, word, 32).gives(word);
        OneWord.withLow(15, word, 0xFFE1).gives(2);
        OneWord.withLow(16, word, 0).gives(word);
        OneWord.withLow(16, word, 31).gives(1);
        OneWord.withLow(16, word, 32).gives(word);
        OneWord.withLow(16, word, 0xFFE1).gives(0x40000000);
        OneWord.withLow(17, word, 0).gives(word);
        OneWord.withLow(17, word, 31).gives(-1);
        OneWord.withLow(17, word, 32).gives(word);
        OneWord.withLow(17, word, 0xFFE1).gives(0xC0000000);
    }

    private static void quotients() {
        Check.sentence("INSTRUCTIONS", "rounded towards 0 (0 by 0; -2^31 by -1 is -2^31)");
        int[][] cases = {
            {7, 2, 3}, {-7, 2, -3}, {7, -2, -3}, {-7, -2, 3}, {1, 2, 0}, {-1, 2, 0}, {0, 5, 0},
            {LEAST, 2, LEAST / 2}, {LEAST, 1, LEAST}, {MOST, -1, -MOST}, {LEAST, LEAST, 1},
            {MOST, LEAST, 0}, {LEAST, MOST, -1},
        };
        for (int[] one : cases) {
            OneWord.of(9, one[0], one[1]).gives(0, one[2], 0);
        }
        OneWord.of(9, 0, 0).gives(0, 0, OVERFLOW);
        OneWord.of(9, 5, 0).gives(0, 0, OVERFLOW);
        OneWord.of(9, LEAST, 0).gives(0, 0, OVERFLOW);
        OneWord.of(9, LEAST, -1).gives(0, LEAST, OVERFLOW);
    }

    private static void lowHalves() {
        Check.sentence("INSTRUCTIONS", "U its lowest 16 bits, I these with their sign");
        OneWord.withLow(10, 0, 0x7FFF).gives(0, 32767, 0);
        OneWord.withLow(10, 0, 0x8000).gives(0, -32768, 0);
        OneWord.withLow(10, 0, 0xFFFF).gives(0, -1, 0);
        OneWord.withLow(35, 0, 0x8000).gives(0, -32768, 0);
        OneWord.withLow(57, 1, 0x8000).gives(0, -32768, 0);
        OneWord.withLow(57, 1, 0x7FFF).gives(0, 32767, 0);
        OneWord.withLow(11, -1, 0x8000).gives(0x8000);
        OneWord.withLow(11, -1, 0xFFFF).gives(0xFFFF);
        OneWord.withLow(12, 0, 0x8000).gives(0x8000);
        OneWord.withLow(12, LEAST, 0xFFFF).gives(0x8000FFFF);
        OneWord.withLow(13, -1, 0x8000).gives(0xFFFF7FFF);
        OneWord.withLow(13, -1, 0xFFFF).gives(0xFFFF0000);
    }

    private static void highHalves() {
        Check.sentence("INSTRUCTIONS", "14 D = U * 2^16");
        OneWord.withLow(14, -1, 0).gives(0);
        OneWord.withLow(14, -1, 1).gives(65536);
        OneWord.withLow(14, -1, 0x7FFF).gives(0x7FFF0000);
        OneWord.withLow(14, -1, 0x8000).gives(LEAST);
        OneWord.withLow(14, -1, 0xFFFF).gives(0xFFFF0000);
    }

    private static void comparesWithoutSigns() {
        Check.sentence("INSTRUCTIONS", "0 equal, 1 not equal, 2 above, 3 not below, 4 below,"
                + " 5 not above without signs");
        int[][] pairs = {{5, 5}, {5, 6}, {6, 5}, {-1, 0}, {0, -1}, {LEAST, MOST}, {MOST, LEAST}};
        for (int[] pair : pairs) {
            long a = pair[0] & 0xFFFFFFFFL;
            long b = pair[1] & 0xFFFFFFFFL;
            boolean[] due = {a == b, a != b, a > b, a >= b, a < b, a <= b};
            for (int number = 0; number < 6; number++) {
                compare(number, pair[0], pair[1], due[number]);
            }
        }
    }

    private static void comparesWithSigns() {
        Check.sentence("INSTRUCTIONS", "6 .. 9: 2 .. 5 with signs");
        int[][] pairs = {{5, 5}, {5, 6}, {6, 5}, {-1, 0}, {0, -1}, {LEAST, MOST}, {MOST, LEAST}};
        for (int[] pair : pairs) {
            int a = pair[0];
            int b = pair[1];
            boolean[] due = {a > b, a >= b, a < b, a <= b};
            for (int number = 6; number < 10; number++) {
                compare(number, a, b, due[number - 6]);
            }
        }
        // I is a word with its sign on both sides.
        compare(4, 32767, -32768, true);
        compare(8, 32767, -32768, false);
        compare(4, 0xFFFF7FFF, -32768, true);
        compare(0, 0x8000, -32768, false);
        compare(0, -32768, -32768, true);
    }

    private static void compare(int number, int a, int b, boolean due) {
        OneWord.ofWord(Code.abd(18, number, 1, 2), a, b).setsFlag(due);
        if (b == (short) b) {
            OneWord.ofWord(Code.imm(19, number, 1, b), a, 0).setsFlag(due);
        }
    }

    private static void comparesThatAreNone() {
        Check.sentence("INSTRUCTIONS", "(D above 9: none such)");
        for (int d = 0; d < 32; d++) {
            for (int op = 18; op < 20; op++) {
                Bench bench = new Bench();
                bench.special(0, 30, 1 | FLAG).put(Code.abd(op, d, 0, 0)).halts().run(40);
                bench.event("COMPARE " + op + " with D " + d, 1, 260, d > 9 ? 7 : 0);
                boolean holds = d > 9 || d == 0 || d == 3 || d == 5 || d == 7 || d == 9;
                bench.special("COMPARE " + op + " with D " + d, 0, holds ? 1 | FLAG : 1);
            }
        }
    }

    private static void carryIsAdded() {
        Check.sentence("INSTRUCTIONS", "34 D = A + B + CARRY; 35 A + I + CARRY");
        OneWord.of(34, 5, 7).gives(0, 12, 0);
        OneWord.of(34, 5, 7).gives(CARRY, 13, 0);
        OneWord.of(34, 5, 7).gives(FLAG | OVERFLOW, 12, FLAG);
        OneWord.of(34, -1, -1).gives(CARRY, -1, CARRY);
        OneWord.of(34, -1, -1).gives(0, -2, CARRY);
        OneWord.withLow(35, 5, 7).gives(0, 12, 0);
        OneWord.withLow(35, 5, 7).gives(ALL, 13, FLAG);
        OneWord.withLow(35, -1, -1).gives(CARRY, -1, CARRY);
    }

    private static void carryOfNumbers() {
        Check.sentence("INSTRUCTIONS", "(for CARRY I is taken as a word without a sign, here and in"
                + " 10)");
        OneWord.withLow(10, 0, -1).setsCarry(false);
        OneWord.withLow(10, 1, -1).setsCarry(true);
        OneWord.withLow(10, 32767, -32768).setsCarry(false);
        OneWord.withLow(10, 32768, -32768).setsCarry(true);
        OneWord.withLow(10, -1, 0).setsCarry(false);
        OneWord.withLow(10, -1, 1).setsCarry(true);
        OneWord.withLow(35, 0, -1).gives(0, -1, 0);
        OneWord.withLow(35, 0, -1).gives(CARRY, 0, CARRY);
        OneWord.withLow(35, 0, -2).gives(CARRY, -1, 0);
        OneWord.withLow(35, 32767, -32768).gives(0, -1, 0);
        OneWord.withLow(35, 32767, -32768).gives(CARRY, 0, CARRY);
    }

    private static void withoutSigns() {
        Check.sentence("INSTRUCTIONS", "36 MULTIPLY, 37 DIVIDE without signs (0 by 0)");
        OneWord.of(36, -1, 1).gives(0, -1, 0);
        OneWord.of(36, -1, 2).gives(0, -2, CARRY);
        OneWord.of(36, 0, -1).gives(OVERFLOW, 0, OVERFLOW);
        OneWord.of(37, -1, 2).gives(0, MOST, 0);
        OneWord.of(37, LEAST, -1).gives(OVERFLOW, 0, OVERFLOW);
        OneWord.of(37, -1, LEAST).gives(0, 1, 0);
        OneWord.of(37, -1, -1).gives(0, 1, 0);
        OneWord.of(37, 7, 0).gives(0, 0, CARRY);
        OneWord.of(37, -1, 0).gives(0, 0, CARRY);
        OneWord.of(37, 0, 0).gives(OVERFLOW, 0, CARRY | OVERFLOW);
    }

    private static void sumsOfProducts() {
        Check.sentence("INSTRUCTIONS", "38 SUM is A * B more (with signs), 39 A * I more, 40 A * B less");
        sum(38, -3, 5, 0, 10, -1, -5);
        sum(38, -3, -5, 0, 0, 0, 15);
        sum(38, LEAST, -1, 0, 0, 0, LEAST);
        sum(40, -3, 5, 0, 0, 0, 15);
        sum(40, 3, 5, 0, 0, -1, -15);
        int[][] cases = {{-3, 0x8000, 0, 98304}, {3, 0x8000, -1, -98304}, {MOST, 0x7FFF, 0x3FFF,
            0x7FFF8001}, {LEAST, -1, 0, LEAST}};
        for (int[] one : cases) {
            Bench bench = new Bench();
            bench.register(1, one[0]).put(Code.imm(39, 3, 1, one[1])).halts().run(40);
            bench.special("39 of " + one[0] + " and " + one[1], 10, one[2]);
            bench.special("39 of " + one[0] + " and " + one[1], 11, one[3]);
        }
    }

    private static void sumIsTaken() {
        Check.sentence("INSTRUCTIONS", "41 D = SUM's low word, SUM is 0");
        for (int d = 0; d < 32; d += 31) {
            Bench bench = new Bench();
            bench.special(10, 1, -1).special(11, 2, LEAST).put(Code.abd(41, d, 0, 0)).halts().run(40);
            bench.register("41", d, d == 0 ? 0 : LEAST);
            bench.special("41 to " + d, 10, 0);
            bench.special("41 to " + d, 11, 0);
            bench.special("41 to " + d, 0, 1);
        }
    }

    private static void partsWithSign() {
        Check.sentence("INSTRUCTIONS", "42 D = the lowest 16, 43 the lowest 8 bits of A with their sign");
        OneWord.of(42, 0x7FFF, 0).gives(0x7FFF);
        OneWord.of(42, 0x8000, 0).gives(-32768);
        OneWord.of(42, 0xFFFF7FFF, 0).gives(0x7FFF);
        OneWord.of(42, 0x1FFFF, 0).gives(-1);
        OneWord.of(43, 0x7F, 0).gives(127);
        OneWord.of(43, 0x80, 0).gives(-128);
        OneWord.of(43, 0xFFFFFF7F, 0).gives(127);
        OneWord.of(43, 0x1FF, 0).gives(-1);
    }

    private static void partsWithout() {
        Check.sentence("INSTRUCTIONS", "44, 45 the same without");
        OneWord.of(44, 0x8000, 0).gives(0x8000);
        OneWord.of(44, -1, 0).gives(0xFFFF);
        OneWord.of(44, 0x10000, 0).gives(0);
        OneWord.of(45, 0x80, 0).gives(0x80);
        OneWord.of(45, -1, 0).gives(0xFF);
        OneWord.of(45, 0x100, 0).gives(0);
    }

    private static void choices() {
        Check.sentence("INSTRUCTIONS", "46 D = A if FLAG, else B");
        OneWord.of(46, 5, 7).gives(0, 7, 0);
        OneWord.of(46, 5, 7).gives(FLAG, 5, FLAG);
        OneWord.of(46, 5, 7).gives(CARRY | OVERFLOW, 7, CARRY | OVERFLOW);
        OneWord.of(46, 5, 7).gives(ALL, 5, ALL);
    }

    private static void placesOfBits() {
        Check.sentence("INSTRUCTIONS", "of the lowest bit 1 of A (1 for bit 0; 0 if there is none), 48"
                + " of the highest");
        OneWord.of(47, 0, 0).gives(0);
        OneWord.of(47, 1, 0).gives(1);
        OneWord.of(47, -1, 0).gives(1);
        OneWord.of(47, LEAST, 0).gives(32);
        OneWord.of(47, 0x40000000, 0).gives(31);
        OneWord.of(47, 0x50, 0).gives(5);
        OneWord.of(48, 0, 0).gives(0);
        OneWord.of(48, 1, 0).gives(1);
        OneWord.of(48, -1, 0).gives(32);
        OneWord.of(48, LEAST, 0).gives(32);
        OneWord.of(48, MOST, 0).gives(31);
        OneWord.of(48, 0x50, 0).gives(7);
    }

    private static void rotations() {
        Check.sentence("INSTRUCTIONS", "49 A rotated to the right by the lowest five bits of B, 50 of U");
        int word = 0x80000006;
        OneWord.of(49, word, 0).gives(word);
        OneWord.of(49, word, 1).gives(0x40000003);
        OneWord.of(49, word, 2).gives(0xA0000001);
        OneWord.of(49, word, 31).gives(13);
        OneWord.of(49, word, 32).gives(word);
        OneWord.of(49, word, 33).gives(0x40000003);
        OneWord.of(49, word, -1).gives(13);
        OneWord.withLow(50, word, 0).gives(word);
        OneWord.withLow(50, word, 1).gives(0x40000003);
        OneWord.withLow(50, word, 31).gives(13);
        OneWord.withLow(50, word, 32).gives(word);
        OneWord.withLow(50, word, 0xFFFF).gives(13);
        OneWord.withLow(50, word, 0xFFE1).gives(0x40000003);
    }

    // ---- CARRY, OVERFLOW and RANGE ON

    private static void carryOfSums() {
        Check.sentence("INSTRUCTIONS", "(1 if the sum without signs is 2^32 or more, else 0)");
        OneWord.of(0, -1, 0).setsCarry(false);
        OneWord.of(0, -1, 1).setsCarry(true);
        OneWord.of(0, LEAST, MOST).setsCarry(false);
        OneWord.of(0, LEAST, LEAST).setsCarry(true);
        OneWord.of(0, MOST, MOST).setsCarry(false);
        OneWord.of(0, -1, -1).setsCarry(true);
        OneWord.of(0, 0, 0).setsCarry(false);
        OneWord.of(34, LEAST, MOST).gives(0, -1, 0);
        OneWord.of(34, LEAST, MOST).gives(CARRY, 0, CARRY);
        OneWord.of(34, -1, 0).gives(0, -1, 0);
        OneWord.of(34, -1, 0).gives(CARRY, 0, CARRY);
        OneWord.of(34, -2, 0).gives(CARRY, -1, 0);
    }

    private static void carryOfDifferences() {
        Check.sentence("INSTRUCTIONS", "1 (1 if A is below B without signs)");
        OneWord.of(1, 5, 5).setsCarry(false);
        OneWord.of(1, 5, 6).setsCarry(true);
        OneWord.of(1, 6, 5).setsCarry(false);
        OneWord.of(1, 0, -1).setsCarry(true);
        OneWord.of(1, -1, 0).setsCarry(false);
        OneWord.of(1, MOST, LEAST).setsCarry(true);
        OneWord.of(1, LEAST, MOST).setsCarry(false);
        OneWord.of(1, 0, 0).setsCarry(false);
    }

    private static void carryOfProducts() {
        Check.sentence("INSTRUCTIONS", "36 (1 if the product is 2^32 or more)");
        OneWord.of(36, 65535, 65537).setsCarry(false);
        OneWord.of(36, 65536, 65536).setsCarry(true);
        OneWord.of(36, -1, 1).setsCarry(false);
        OneWord.of(36, LEAST, 2).setsCarry(true);
        OneWord.of(36, MOST, 2).setsCarry(false);
        OneWord.of(36, -1, -1).setsCarry(true);
        OneWord.of(36, 0, -1).setsCarry(false);
        // The signed ones leave CARRY as it is.
        OneWord.of(8, -1, -1).gives(CARRY, 1, CARRY);
        OneWord.of(8, -1, -1).gives(0, 1, 0);
    }

    private static void carryOfQuotients() {
        Check.sentence("INSTRUCTIONS", "37 (1 by 0)");
        OneWord.of(37, 5, 0).setsCarry(true);
        OneWord.of(37, 0, 0).setsCarry(true);
        OneWord.of(37, 0, 1).setsCarry(false);
        OneWord.of(37, 5, -1).setsCarry(false);
        OneWord.of(9, 5, 0).gives(CARRY, 0, CARRY | OVERFLOW);
        OneWord.of(9, 5, 1).gives(CARRY, 5, CARRY);
    }

    private static void overflowOfSums() {
        Check.sentence("INSTRUCTIONS", "(1 if the result with signs is not a word, else 0)");
        OneWord.of(0, MOST, 0).setsOverflow(false);
        OneWord.of(0, MOST, 1).setsOverflow(true);
        OneWord.of(0, LEAST, 0).setsOverflow(false);
        OneWord.of(0, LEAST, -1).setsOverflow(true);
        OneWord.of(0, MOST, LEAST).setsOverflow(false);
        OneWord.of(1, MOST, 0).setsOverflow(false);
        OneWord.of(1, MOST, -1).setsOverflow(true);
        OneWord.of(1, LEAST, 0).setsOverflow(false);
        OneWord.of(1, LEAST, 1).setsOverflow(true);
        OneWord.of(1, -1, LEAST).setsOverflow(false);
        OneWord.of(1, 0, LEAST).setsOverflow(true);
        OneWord.withLow(10, MOST - 1, 1).setsOverflow(false);
        OneWord.withLow(10, MOST, 1).setsOverflow(true);
        OneWord.withLow(10, LEAST + 32768, 0x8000).setsOverflow(false);
        OneWord.withLow(10, LEAST + 32767, 0x8000).setsOverflow(true);
        OneWord.of(34, MOST, 0).gives(0, MOST, 0);
        OneWord.of(34, MOST, 0).gives(CARRY, LEAST, OVERFLOW);
        OneWord.of(34, LEAST, -1).gives(0, MOST, CARRY | OVERFLOW);
        OneWord.of(34, LEAST, -1).gives(CARRY | OVERFLOW, LEAST, CARRY);
        OneWord.withLow(35, MOST, 0).gives(0, MOST, 0);
        OneWord.withLow(35, MOST, 0).gives(CARRY, LEAST, OVERFLOW);
        OneWord.withLow(35, LEAST, -1).gives(0, MOST, CARRY | OVERFLOW);
        OneWord.withLow(35, LEAST, -1).gives(CARRY | OVERFLOW, LEAST, CARRY);
    }

    private static void overflowOfProducts() {
        Check.sentence("INSTRUCTIONS", "OVERFLOW is written by 0, 1, 10, 34, 35, 8, 57");
        OneWord.of(8, 65536, 32767).setsOverflow(false);
        OneWord.of(8, 65536, 32768).setsOverflow(true);
        OneWord.of(8, -65536, 32768).setsOverflow(false);
        OneWord.of(8, -65537, 32768).setsOverflow(true);
        OneWord.of(8, LEAST, 1).setsOverflow(false);
        OneWord.of(8, LEAST, -1).setsOverflow(true);
        OneWord.of(8, MOST, -1).setsOverflow(false);
        OneWord.of(8, 65536, 65536).setsOverflow(true);
        OneWord.withLow(57, 65536, 0x7FFF).setsOverflow(false);
        OneWord.withLow(57, 65536, 0x8000).setsOverflow(false);
        OneWord.withLow(57, -65536, 0x8000).setsOverflow(true);
        OneWord.withLow(57, 65537, 0x8000).setsOverflow(true);
        OneWord.withLow(57, LEAST, -1).setsOverflow(true);
        OneWord.withLow(57, LEAST, 1).setsOverflow(false);
    }

    private static void overflowOfQuotients() {
        Check.sentence("INSTRUCTIONS", "9 (1 by 0, and for -2^31 by -1)");
        OneWord.of(9, 5, 0).setsOverflow(true);
        OneWord.of(9, 0, 0).setsOverflow(true);
        OneWord.of(9, LEAST, -1).setsOverflow(true);
        OneWord.of(9, LEAST + 1, -1).setsOverflow(false);
        OneWord.of(9, LEAST, 1).setsOverflow(false);
        OneWord.of(9, 0, -1).setsOverflow(false);
        OneWord.of(9, MOST, -1).setsOverflow(false);
        OneWord.of(37, 5, 0).gives(OVERFLOW, 0, CARRY | OVERFLOW);
        OneWord.of(37, 5, 5).gives(OVERFLOW, 1, OVERFLOW);
    }

    private static void rangeOn() {
        Check.sentence("INSTRUCTIONS", "If RANGE ON, and OVERFLOW would be 1, there is exception 11");
        for (int sr : new int[] {0, FLAG | OVERFLOW}) {
            OneWord.of(0, MOST, 1).isOutOfRange(sr, true);
            OneWord.of(0, MOST, 0).isOutOfRange(sr, false);
            OneWord.of(1, LEAST, 1).isOutOfRange(sr, true);
            OneWord.of(1, LEAST, 0).isOutOfRange(sr, false);
            OneWord.withLow(10, MOST, 1).isOutOfRange(sr, true);
            OneWord.withLow(10, MOST, 0).isOutOfRange(sr, false);
            OneWord.of(34, MOST, 0).isOutOfRange(sr | CARRY, true);
            OneWord.of(34, MOST, 0).isOutOfRange(sr, false);
            OneWord.withLow(35, LEAST, -1).isOutOfRange(sr, true);
            OneWord.withLow(35, LEAST, -1).isOutOfRange(sr | CARRY, false);
            OneWord.of(8, 65536, 32768).isOutOfRange(sr, true);
            OneWord.of(8, 65536, 32767).isOutOfRange(sr, false);
            OneWord.withLow(57, LEAST, -1).isOutOfRange(sr, true);
            OneWord.withLow(57, LEAST, 1).isOutOfRange(sr, false);
            OneWord.of(9, 5, 0).isOutOfRange(sr, true);
            OneWord.of(9, LEAST, -1).isOutOfRange(sr, true);
            OneWord.of(9, LEAST, 1).isOutOfRange(sr, false);
            // These write no OVERFLOW.
            OneWord.of(36, -1, -1).isOutOfRange(sr, false);
            OneWord.of(37, 5, 0).isOutOfRange(sr, false);
            OneWord.of(38, LEAST, LEAST).isOutOfRange(sr, false);
            OneWord.of(3, 5, 0).isOutOfRange(sr, false);
        }
        // Register 0 is written in vain, but OVERFLOW would be 1.
        Bench zero = new Bench();
        zero.special(0, 30, 513).register(1, MOST).put(Code.imm(10, 0, 1, 1)).halts().run(40);
        zero.event("to register 0", 1, 260, 11);
    }

    // ---- BRANCHES

    private static void bitsOfJ() {
        Check.sentence("INSTRUCTIONS", "J its lowest 26 bits with their sign");
        int[][] cases = {{0, 256}, {1, 260}, {0x1FFFFFF, 256 + 134217724}, {0x2000000, 256 - 134217728},
            {0x3FFFFFF, 252}, {0x3FFFFC0, 0}, {0x3FFFFBF, -4}};
        for (int[] one : cases) {
            for (int op : new int[] {20, 21, 23}) {
                Bench bench = new Bench();
                bench.put(op << 26 | one[0], Code.abd(9, 1, 2, 0)).run(6);
                Check.due("TARGET of " + op + " with " + one[0], bench.x.placeOf(2), one[1]);
            }
        }
    }

    private static void targets() {
        Check.sentence("INSTRUCTIONS", "TARGET is PC + 4 * J");
        int[] all = {0, 1, 2, 3, -1, -63, -64, -65, (1 << 25) - 1, -(1 << 25)};
        for (int j : all) {
            for (int op : new int[] {20, 21, 23}) {
                Bench bench = new Bench();
                bench.put(Code.nothing(), Code.jump(op, j), Code.abd(9, 1, 2, 0)).run(7);
                Check.due("in the slot of " + op, bench.x.placeOf(1), 260);
                Check.due("TARGET with J " + j, bench.x.placeOf(2), 260 + 4 * j);
                bench.run(60);
                Check.due("PC with J " + j, bench.x.valueOf(3, 0), 260 + 4 * j);
            }
        }
        for (int to : new int[] {0, 4, 32764, 32768, 65536, -4, LEAST, 2, -1}) {
            for (int op = 24; op < 26; op++) {
                Bench bench = new Bench();
                bench.register(1, to).put(Code.abd(op, 0, 0, 1), Code.nothing()).run(6);
                Check.due("TARGET B", bench.x.placeOf(2), to);
                bench.run(6);
                Check.due("PC", bench.x.valueOf(2, 0), to);
            }
        }
    }

    private static void jumpsThatStay() {
        Check.sentence("INSTRUCTIONS", "(PC + 8, if a JUMP does not go)");
        for (int op = 22; op < 24; op++) {
            for (int flag = 0; flag <= FLAG; flag += FLAG) {
                boolean goes = (op == 22) == (flag != 0);
                for (int j : new int[] {0, 1, 2, 20, -20}) {
                    Bench bench = new Bench();
                    bench.special(0, 1, 1 | flag).put(Code.jump(op, j), Code.nothing()).halts().run(12);
                    Check.due("TARGET of " + op + " with " + flag, bench.x.placeOf(2),
                            goes ? 260 + 4 * j : 268);
                    bench.run(12);
                    Check.due("PC behind " + op, bench.x.valueOf(3, 0), goes ? 260 + 4 * j : 268);
                }
            }
        }
    }

    private static void callsWriteLink() {
        Check.sentence("INSTRUCTIONS", "CALLS write PC + 8 to register 31");
        for (int op = 20; op < 26; op++) {
            Bench bench = new Bench();
            bench.register(1, 512).put(Code.abd(op, 0, 0, 1), Code.nothing()).run(20);
            boolean call = op == 21 || op == 25;
            Check.due("register of " + op, bench.x.eventOf(0, 2), call ? 31 : -1);
            Check.due("value of " + op, bench.x.valueOf(0, 1), call ? 264 : 0);
            bench.register("op " + op, 31, call ? 264 : 0);
        }
    }

    // ---- LOADS, STORES and SPECIALS

    private static void loads() {
        Check.sentence("INSTRUCTIONS", "27 a byte (0s ahead), 51 a byte with its sign, 52 a half"
                + " (16 bits, 0s ahead), 53 a half with its sign");
        int[][] cases = {
            {27, 0x7F800000, 0, 0x7F}, {27, 0x7F800000, 1, 0x80}, {27, -1, 3, 255},
            {51, 0x7F800000, 0, 0x7F}, {51, 0x7F800000, 1, -128}, {51, -1, 3, -1},
            {52, 0x7FFF8000, 0, 0x7FFF}, {52, 0x7FFF8000, 2, 0x8000}, {52, -1, 2, 65535},
            {53, 0x7FFF8000, 0, 0x7FFF}, {53, 0x7FFF8000, 2, -32768}, {53, -1, 2, -1},
            {26, LEAST, 0, LEAST}, {26, -1, 0, -1},
        };
        for (int[] one : cases) {
            Bench bench = new Bench();
            bench.at(40000).put(one[1]).at(256).register(1, 40000).register(3, 99);
            bench.put(Code.imm(one[0], 3, 1, one[2])).halts().run(20);
            bench.register("LOAD " + one[0] + " and " + one[2], 3, one[3]);
        }
        // A + I with the least and the greatest I.
        for (int i : new int[] {32764, -32768}) {
            Bench bench = new Bench();
            bench.at(40000).put(55).at(256).register(1, 40000 - i).put(Code.imm(26, 3, 1, i)).halts();
            bench.run(20).register("I is " + i, 3, 55);
        }
    }

    private static void stores() {
        Check.sentence("INSTRUCTIONS", "28 STORE the word D at A + I, 29 its lowest byte, 54 its lowest"
                + " half");
        int[][] cases = {
            {28, 0, 0x1234FEDC}, {29, 0, 0xDCBBCCDD}, {29, 1, 0xAADCCCDD}, {29, 2, 0xAABBDCDD},
            {29, 3, 0xAABBCCDC}, {54, 0, 0xFEDCCCDD}, {54, 2, 0xAABBFEDC},
        };
        for (int place : new int[] {32768, 40000, 65528}) {
            for (int[] one : cases) {
                Bench bench = new Bench();
                bench.at(place).put(0xAABBCCDD, 7).at(256).register(1, place).register(3, 0x1234FEDC);
                bench.put(Code.imm(one[0], 3, 1, one[1])).halts().run(20);
                Check.due("STORE " + one[0] + " at " + one[1], bench.x.wordAt(place), one[2]);
                Check.due("the word behind", bench.x.wordAt(place + 4), 7);
            }
        }
    }

    private static void readsOfNone() {
        Check.sentence("INSTRUCTIONS", "30 READ D = SPECIAL U (0 if there is none such)");
        for (int none : new int[] {12, 13, 1023, 1040, 1151, 1168, 1296, 1424, 1535, 1536, 65535}) {
            Bench bench = new Bench();
            bench.register(3, 99).put(Code.read(3, none)).halts().run(20);
            bench.event("READ " + none, 0, 256, 0);
            bench.register("READ " + none, 3, 0);
            Check.due("READ " + none + " writes", bench.x.eventOf(0, 2), 3);
        }
        for (int last : new int[] {11, 1039, 1167, 1295, 1423}) {
            Bench bench = new Bench();
            bench.special(last, 1, 77).put(Code.read(3, last)).halts().run(20);
            bench.register("READ " + last, 3, 77);
        }
    }

    private static void writesOfNone() {
        Check.sentence("INSTRUCTIONS", "WRITE SPECIAL U = A (nothing if there is none such, or for 8");
        for (int none : new int[] {12, 1023, 1040, 1151, 1168, 1296, 1424, 1535, 1536, 65535, 8}) {
            Bench bench = new Bench();
            bench.register(1, -1).put(Code.write(none, 1)).run(6);
            Bench other = new Bench();
            other.register(1, -1).put(Code.nothing()).run(5);
            bench.event("WRITE " + none, 0, 256, 0);
            for (int special = 0; special < 12; special++) {
                int due = special == 8 ? 1 : other.x.specialOf(special);
                bench.special("WRITE " + none, special, due);
            }
            for (int special = 1024; special < 1536; special += 16) {
                bench.special("WRITE " + none, special, 0);
                bench.special("WRITE " + none, special + 15, 0);
            }
            Check.due("WRITE " + none + " writes no register", bench.x.eventOf(0, 2), -1);
        }
    }

    private static void writesOfStatus() {
        Check.sentence("INSTRUCTIONS", "for 7: the bits of A that are 1 are 0 in HELD");
        int[][] cases = {{0, 7}, {1, 6}, {2, 5}, {7, 0}, {8, 7}, {-1, 0}, {~1, 1}};
        for (int[] one : cases) {
            Bench bench = new Bench();
            bench.lines(1, 7).lines(2, 0).special(9, 1, 7).special(7, 2, one[0]).halts().run(40);
            Check.due("HELD behind a WRITE of " + one[0], bench.x.lookAt(8), one[1]);
            bench.special("STATUS behind a WRITE of " + one[0], 7, one[1]);
            bench.special("LATCH", 9, 7);
        }
        // Those that LATCH has not, too.
        Bench other = new Bench();
        other.lines(1, 7).lines(2, 0).special(9, 1, 7).special(9, 2, 1).special(7, 3, 3).halts();
        other.run(40);
        Check.due("HELD where LATCH is not", other.x.lookAt(8), 4);
    }

    private static void bitsThatStayZero() {
        Check.sentence("INSTRUCTIONS", "bits that are always 0 stay so");
        int[][] cases = {{0, 0xFFFFFC01, 1}, {2, -1, 1023}, {2, 0xFFFFFC00, 0}, {4, -1, 0x0FFFFFFF},
            {5, 0x80000000, 0}, {1, -1, -1}, {3, -1, -1}, {6, -1, -1}, {9, -1, -1}, {1024, -1, -1},
            {1152, -1, -1}, {1280, -1, -1}, {1408, -1, -1}};
        for (int[] one : cases) {
            Bench bench = new Bench();
            bench.special(one[0], 1, one[1]).put(Code.read(3, one[0])).halts().run(14);
            bench.special("WRITE of " + one[0], one[0], one[2]);
            bench.register("READ of " + one[0], 3, one[2]);
        }
    }

    private static void onlyAsSupervisor() {
        Check.sentence("INSTRUCTIONS", "30, 31, 33 not as SUPERVISOR");
        int[] words = {Code.read(3, 0), Code.write(6, 1), Code.back(), Code.write(8, 1),
            Code.read(3, 65535), Code.write(65535, 1)};
        for (int word : words) {
            for (int sr = 0; sr < 2; sr++) {
                Bench bench = new Bench();
                bench.register(3, 99).special(1, 2, 512).special(0, 1, sr).put(word).halts().run(40);
                String name = Integer.toHexString(word) + " with SR " + sr;
                bench.event(name, 2, 264, sr == 0 ? 7 : 0);
                if (sr == 0) {
                    bench.register(name, 3, 99);
                    bench.special(name, 6, 0);
                    bench.special(name, 1, 264);
                    bench.special(name, 2, 0);
                }
            }
        }
        for (int word : new int[] {Code.sys(), Code.trap()}) {
            Bench bench = new Bench();
            bench.special(0, 1, 0).put(word).halts().run(40);
            bench.event("but not these", 1, 260, word == Code.sys() ? 12 : 14);
        }
    }

    private static void otherWords() {
        Check.sentence("INSTRUCTIONS", "Other words (a COMPARE with D above 9, too)");
        for (int op = 0; op < 64; op++) {
            for (int rest : new int[] {0, 0x3FFFFFF}) {
                boolean compare = op == 18 || op == 19;
                boolean none = op > 57 || compare && rest != 0;
                Bench bench = new Bench();
                bench.register(31, 40000).put(op << 26 | rest).halts().run(40);
                int exception = bench.x.eventOf(0, 1);
                Check.due("word " + op + " with " + rest + " is none", exception == 7, none);
            }
        }
        // A word in which all bits but those of its OP are set is what its OP tells.
        Bench nothing = new Bench();
        nothing.put(55 << 26 | 0x3FFFFFF).halts().run(20);
        nothing.event("nothing", 0, 256, 0);
        Check.due("nothing writes nothing", nothing.x.eventOf(0, 2), -1);
    }

    private static void branchesInSlots() {
        Check.sentence("INSTRUCTIONS", "BRANCHES and RETURN in a SLOT: exception 7");
        int[] words = {Code.jump(20, 2), Code.jump(21, 2), Code.jump(22, 2), Code.jump(23, 2),
            Code.abd(24, 0, 0, 1), Code.abd(25, 0, 0, 1), Code.back()};
        for (int branch = 20; branch < 26; branch++) {
            for (int word : words) {
                Bench bench = new Bench();
                bench.register(1, 512).put(branch << 26 | 1 << 11, word).halts().run(40);
                String name = Integer.toHexString(word) + " in the slot of " + branch;
                bench.event(name, 1, 260, 7);
                Check.due(name + ": slot", bench.x.eventOf(1, 5), 1);
                bench.special(name, 1, 256);
                bench.special(name, 0, 65);
                bench.register(name, 31, branch == 21 || branch == 25 ? 264 : 0);
                Check.due(name + ": goes on", bench.x.valueOf(2, 0), 1792);
            }
        }
        // Behind the slot they are fine again.
        Bench behind = new Bench();
        behind.put(Code.jump(22, 9), Code.nothing(), Code.jump(20, 9), Code.nothing()).halts().run(20);
        behind.event("behind a slot", 2, 264, 0);
        for (int word : new int[] {Code.read(3, 0), Code.write(6, 3), Code.sys(), Code.trap()}) {
            Bench bench = new Bench();
            bench.put(Code.jump(20, 9), word).halts().run(40);
            Check.due("others in a slot", bench.x.eventOf(1, 1) != 7, true);
        }
    }

    private static void slotBitIsButABit() {
        Check.sentence("INSTRUCTIONS", "whether PC is in a SLOT does not hang on it");
        Bench bench = new Bench();
        bench.special(0, 1, 65).put(Code.jump(20, 2), Code.nothing(), Code.nothing()).halts().run(40);
        bench.event("a branch with IN SLOT set", 1, 260, 0);
        bench.special("it stays set", 0, 65);
        int[] slots = {0, 0, 1, 0};
        for (int event = 0; event < slots.length; event++) {
            Check.due("slot of event " + event, bench.x.eventOf(event, 5), slots[event]);
        }
        Bench taken = new Bench();
        taken.register(1, 1).put(Code.jump(20, 9), Code.write(0, 1)).at(292).halt().run(40);
        Check.due("a WRITE in a slot", taken.x.eventOf(1, 5), 1);
        taken.event("and on", 2, 292, 0);
        Bench back = new Bench();
        back.special(1, 1, 512).special(2, 2, 65).put(Code.back()).at(512).halt().run(19);
        Check.due("RETURN with IN SLOT set", back.x.placeOf(1), 0);
        back.special("SR", 0, 65);
        back.run(5);
        back.event("a branch there", 3, 512, 0);
    }

    private static void allBitsAreWritten() {
        Check.sentence("INSTRUCTIONS", "(A WRITE of SR, ESR and RETURN write all their bits, also IN SLOT,"
                + " FLAG, CARRY");
        int all = 1 | FLAG | 64 | CARRY | OVERFLOW;
        for (int bits = 0; bits < 1024; bits++) {
            Bench write = new Bench();
            write.special(0, 1, all).special(0, 2, bits).run(12);
            write.special("WRITE of SR", 0, bits);
            write.special("WRITE of SR leaves ESR", 2, 0);
            Bench kept = new Bench();
            kept.special(2, 1, all).special(2, 2, bits).run(12);
            kept.special("WRITE of ESR", 2, bits);
            kept.special("WRITE of ESR leaves SR", 0, 1);
            Bench back = new Bench();
            back.special(2, 1, bits).special(0, 2, all).put(Code.back()).run(18);
            back.special("RETURN with " + bits, 0, bits);
            back.special("RETURN leaves ESR", 2, bits);
        }
    }

    private static void returns() {
        Check.sentence("INSTRUCTIONS", "33 RETURN: SR is ESR, PC is EPC, not in a SLOT");
        int[] places = {0, 4, 256, 264, 32764, 32768, 65536, -4, LEAST, MOST, 1, 2, 3, -1};
        for (int place : places) {
            Bench bench = new Bench();
            bench.special(1, 1, place).special(2, 2, 65).put(Code.back()).run(18);
            Check.due("PC", bench.x.placeOf(0), place);
            Check.due("no branch", bench.x.placeOf(1), 0);
            Check.due("no TARGET", bench.x.placeOf(2), 0);
            bench.special("EPC stays", 1, place);
            Check.due("the next is there", bench.run(6).x.valueOf(3, 0), place);
            Check.due("and in no slot", bench.x.eventOf(3, 5), 0);
        }
    }

    private static void nothing() {
        Check.sentence("INSTRUCTIONS", "55 nothing");
        for (int rest : new int[] {0, 0x3FFFFFF, 0x20F0000}) {
            Bench bench = new Bench();
            bench.special(0, 1, 1 | ALL | 512).special(11, 2, -5).special(10, 3, 9);
            for (int register = 4; register < 32; register++) {
                bench.register(register, MOST - register);
            }
            bench.put(55 << 26 | rest).halt().run(40);
            for (int register = 4; register < 32; register++) {
                bench.register("nothing", register, MOST - register);
            }
            bench.event("nothing", 3, 268, 0);
            bench.special("SR", 0, 1 | ALL | 512);
            bench.special("the high word of SUM", 10, 9);
            bench.special("the low word of SUM", 11, -5);
            Check.due("no register", bench.x.eventOf(3, 2), -1);
            Check.due("no COMPARE", bench.x.eventOf(3, 3), 0);
            Check.due("no place", bench.x.eventOf(3, 4), -1);
            Check.due("no value", bench.x.valueOf(3, 1), 0);
            Check.due("nothing stored", bench.x.valueOf(3, 2), 0);
        }
    }
}
