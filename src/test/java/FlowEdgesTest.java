/**
 * One test of its own for each sentence of MAPS, ONE BY ONE, EXCEPTION, LINES and EVENTS that names
 * an edge: the first and the last page, a wrap-around of COUNT, what comes first.
 */
public final class FlowEdgesTest {
    private static final int LEAST = Integer.MIN_VALUE;
    private static final int SUPERVISOR = 1;
    private static final int TIMER_ON = 2;
    private static final int LINES_ON = 4;
    private static final int DATA_MAPPED = 8;
    private static final int CODE_MAPPED = 16;
    private static final int FLAG = 32;
    private static final int IN_SLOT = 64;
    private static final int CARRY = 128;
    private static final int OVERFLOW = 256;
    private static final int PENDING = 1 << 28;
    private static final int WIDEST_COUNT = (1 << 28) - 1;

    private FlowEdgesTest() {
    }

    public static void main(String[] args) {
        setsOfDataPages();
        setsOfCodePages();
        codeOffItsPlace();
        codeMatch();
        codePermission();
        codePlaces();
        codeEnds();
        codeWithoutMap();
        dataMatch();
        dataPermission();
        dataEnds();
        storesToCode();
        dataWithoutMap();
        dataOffItsPlace();
        firstOfCode();
        firstOfData();
        addressesOfExceptions();
        timerOnAndPending();
        linesOnAndMask();
        heldInMask();
        timerAheadOfLines();
        pcGoesOn();
        pcGoesRound();
        modes();
        countGoesRound();
        periods();
        pendingStays();
        modeTwoEnds();
        ownWritesFirst();
        latchedThen();
        retiredAhead();
        nothingIsDone();
        exceptionPlaces();
        whatSrWas();
        bitsThatStay();
        handlers();
        oneEventEach();
        Check.end("FlowEdgesTest");
    }

    // ---- MAPS

    private static void setsOfDataPages() {
        Check.sentence("MAPS", "An address v is of page v / 1024, whose SET is page modulo S");
        for (int sets = 16; sets <= 128; sets *= 2) {
            int[] pages = {0, 1, sets - 1, sets, 2 * sets - 1, 5 * sets + 3, (1 << 22) - 1};
            for (int page : pages) {
                for (int low : new int[] {0, 1020}) {
                    Bench bench = new Bench(sets);
                    bench.at(40960 + low).put(77).at(256).register(6, page * 1024 + low);
                    bench.special(1280 + page % sets, 1, page * 1024 + 1);
                    bench.special(1408 + page % sets, 2, 40960 + 4);
                    bench.special(0, 3, SUPERVISOR | DATA_MAPPED).put(Code.imm(26, 7, 6, 0)).halts();
                    bench.run(30).event("page " + page + " of " + sets, 3, 268, 0);
                    bench.register("page " + page + " of " + sets, 7, 77);
                }
            }
        }
    }

    private static void setsOfCodePages() {
        Check.sentence("MAPS", "Code: v has to be");
        for (int sets = 16; sets <= 128; sets *= 2) {
            int[] pages = {0, 1, sets - 1, sets, 2 * sets - 1, 5 * sets + 3, (1 << 22) - 1};
            for (int page : pages) {
                for (int low : new int[] {0, 1016}) {
                    Bench bench = new Bench(sets);
                    bench.special(1024 + page % sets, 1, page * 1024 + 1);
                    bench.special(1152 + page % sets, 2, 8192 + 4).special(1, 3, page * 1024 + low);
                    bench.special(2, 4, SUPERVISOR | CODE_MAPPED).put(Code.back()).halts();
                    bench.at(8192 + low).put(Code.imm(10, 9, 0, 77)).run(50);
                    bench.event("page " + page + " of " + sets, 5, page * 1024 + low, 0);
                    bench.register("page " + page + " of " + sets, 9, 77);
                }
            }
        }
    }

    /** Code comes to an address by RETURN, with a map of its SET; event 5 is what it comes to. */
    private static Bench code(int match, int place, int sr, int address) {
        Bench bench = new Bench();
        int set = (address >>> 10) % 16;
        bench.special(1024 + set, 1, match).special(1152 + set, 2, place);
        bench.special(1, 3, address).special(2, 4, sr).put(Code.back()).halts();
        return bench.at(8192 + 16).put(Code.imm(10, 9, 0, 77));
    }

    private static void codeIs(int match, int place, int sr, int address, int due) {
        Bench bench = code(match, place, sr, address).run(50);
        String name = "code at " + address + " with " + match + ", " + place + ", SR " + sr;
        bench.event(name, 5, address, due);
        if (due != 0) {
            bench.special(name, 3, address);
            bench.special(name, 1, address);
            bench.special(name, 2, sr);
            Check.due(name + ": goes on", bench.x.valueOf(6, 0), 256 * due);
        }
    }

    private static void codeOffItsPlace() {
        Check.sentence("MAPS", "v has to be a multiple of 4 (else 6)");
        for (int low = 0; low < 4; low++) {
            int due = low == 0 ? 0 : 6;
            codeIs(0, 0, SUPERVISOR, 8208 + low, due);
            codeIs(5121, 8192 + 15, SUPERVISOR | CODE_MAPPED, 5136 + low, due);
        }
        codeIs(0, 0, SUPERVISOR, -1, 6);
        codeIs(0, 0, SUPERVISOR, 32769, 6);
    }

    private static void codeMatch() {
        Check.sentence("MAPS", "MATCH of the SET has to be odd, with the page in bits 10 .. 31"
                + " (else 10)");
        int mapped = SUPERVISOR | CODE_MAPPED;
        codeIs(5120 + 1, 8192 + 15, mapped, 5136, 0);
        codeIs(5120, 8192 + 15, mapped, 5136, 10);
        codeIs(5120 + 1022, 8192 + 15, mapped, 5136, 10);
        codeIs(5120 + 1023, 8192 + 15, mapped, 5136, 0);
        codeIs(5120 + 1024 + 1, 8192 + 15, mapped, 5136, 10);
        codeIs(5120 - 1024 + 1, 8192 + 15, mapped, 5136, 10);
        codeIs(5120 + 16384 + 1, 8192 + 15, mapped, 5136, 10);
        codeIs(5120 + 1 + LEAST, 8192 + 15, mapped, 5136, 10);
        codeIs(5120 + 1 + LEAST, 8192 + 15, mapped, 5136 + LEAST, 0);
        codeIs(0, 8192 + 15, mapped, 16, 10);
        codeIs(1, 8192 + 15, mapped, 16, 0);
        codeIs(0, 0, SUPERVISOR, 5136, 0);
    }

    private static void codePermission() {
        Check.sentence("MAPS", "PLACE to have the bit 1, or 4 for the SUPERVISOR (else 4)");
        for (int bits = 0; bits < 16; bits++) {
            codeIs(5121, 8192 + bits, CODE_MAPPED, 5136, (bits & 1) != 0 ? 0 : 4);
            codeIs(5121, 8192 + bits, CODE_MAPPED | SUPERVISOR, 5136, (bits & 4) != 0 ? 0 : 4);
        }
        codeIs(5121, 8192 + 1008, CODE_MAPPED, 5136, 4);
        codeIs(5121, 8192 + 1008, CODE_MAPPED | SUPERVISOR, 5136, 4);
        codeIs(5121, 8192, 0, 5136, 0);
    }

    private static void codePlaces() {
        Check.sentence("MAPS", "the place is the page of PLACE (its bits 10 .. 31) and v's lowest ten"
                + " bits");
        for (int page = 5; page < 32; page += 13) {
            for (int low : new int[] {0, 512, 1020}) {
                Bench bench = code(5121, page * 1024 + 1020 + 1, CODE_MAPPED, 5120 + low);
                bench.at(page * 1024 + low).put(Code.imm(10, 9, 0, 55)).run(50);
                bench.event("page " + page + " and " + low, 5, 5120 + low, 0);
                bench.register("page " + page + " and " + low, 9, 55);
            }
        }
    }

    private static void codeEnds() {
        Check.sentence("MAPS", "that has to be below 32768 (else 2)");
        int mapped = SUPERVISOR | CODE_MAPPED;
        codeIs(5121, 31744 + 4, mapped, 5120, 0);
        codeIs(5121, 31744 + 4, mapped, 5120 + 1020, 0);
        codeIs(5121, 32768 + 4, mapped, 5120, 2);
        codeIs(5121, 32768 + 4, mapped, 5120 + 1020, 2);
        codeIs(5121, 65536 + 4, mapped, 5120, 2);
        codeIs(5121, LEAST + 4, mapped, 5120, 2);
        codeIs(5121, 0xFFFFFC04, mapped, 5120, 2);
        codeIs(5121, 4, mapped, 5120, 0);
        // An address that is not below 32768 is fine if its place is.
        codeIs(0x10001401, 8192 + 4, mapped, 0x10001410, 0);
    }

    private static void codeWithoutMap() {
        Check.sentence("MAPS", "if CODE MAPPED");
        codeIs(0, 0, SUPERVISOR, 0, 0);
        codeIs(0, 0, SUPERVISOR, 32764, 0);
        codeIs(0, 0, SUPERVISOR, 32768, 2);
        codeIs(0, 0, SUPERVISOR, 65536, 2);
        codeIs(0, 0, SUPERVISOR, 65536 + 8192, 2);
        codeIs(0, 0, SUPERVISOR, LEAST, 2);
        codeIs(0, 0, SUPERVISOR, -4, 2);
        codeIs(0, 0, SUPERVISOR | DATA_MAPPED, 8208, 0);
        codeIs(0, 0, 0, 8208, 0);
        Bench first = code(0, 0, SUPERVISOR, 0);
        first.at(0).put(Code.imm(10, 9, 0, 55)).halt().run(60);
        first.event("the first word", 5, 0, 0);
        first.event("behind it", 6, 4, 0);
        first.register("the first word", 9, 55);
        // Behind the last word of CODE there is no more.
        Bench end = code(0, 0, SUPERVISOR, 32760);
        end.at(32760).put(Code.nothing(), Code.nothing()).run(60);
        end.event("the last word", 6, 32764, 0);
        end.event("behind it", 7, 32768, 2);
    }

    /** A LOAD or STORE of register 7 at an address, with a map of its SET; it is event 3. */
    private static void dataIs(int op, int match, int place, int sr, int address, int due) {
        Bench bench = new Bench();
        int set = (address >>> 10) % 16;
        bench.register(6, address).register(7, 66);
        bench.special(1280 + set, 1, match).special(1408 + set, 2, place).special(0, 3, sr);
        bench.put(Code.imm(op, 7, 6, 0)).halts().run(30);
        boolean store = op == 28 || op == 29 || op == 54;
        String name = op + " at " + address + " with " + match + ", " + place + ", SR " + sr;
        bench.event(name, 3, 268, due);
        bench.special(name, 3, due == 0 ? 0 : address);
        bench.register(name, 7, due != 0 || store ? 66 : 0);
        int mappedTo = (sr & DATA_MAPPED) == 0 ? address : place & -1024 | address & 1023;
        Check.due(name + ": place", bench.x.eventOf(3, 4), due == 0 && store ? mappedTo : -1);
        if (due != 0) {
            bench.special(name, 1, 268);
            bench.special(name, 2, sr);
            Check.due(name + ": goes on", bench.x.valueOf(4, 0), 256 * due);
        }
    }

    private static void dataMatch() {
        Check.sentence("MAPS", "Data likewise, if DATA MAPPED, with DATA MATCH (else 9)");
        int mapped = SUPERVISOR | DATA_MAPPED;
        int place = 40960 + 15;
        for (int op : new int[] {26, 27, 51, 52, 53, 28, 29, 54}) {
            dataIs(op, 7168 + 1, place, mapped, 7180, 0);
            dataIs(op, 7168, place, mapped, 7180, 9);
            dataIs(op, 7168 + 1022, place, mapped, 7180, 9);
            dataIs(op, 7168 + 1023, place, mapped, 7180, 0);
            dataIs(op, 7168 + 1024 + 1, place, mapped, 7180, 9);
            dataIs(op, 7168 + 16384 + 1, place, mapped, 7180, 9);
            dataIs(op, 7168 + LEAST + 1, place, mapped, 7180, 9);
            dataIs(op, 7168 + LEAST + 1, place, mapped, 7180 + LEAST, 0);
        }
        dataIs(26, 0, place, mapped, 12, 9);
        dataIs(26, 1, place, mapped, 12, 0);
    }

    private static void dataPermission() {
        Check.sentence("MAPS", "bits 1 or 4 for a LOAD, 2 or 8 for a STORE (else 3)");
        for (int bits = 0; bits < 16; bits++) {
            for (int op : new int[] {26, 27, 51, 52, 53, 28, 29, 54}) {
                boolean store = op == 28 || op == 29 || op == 54;
                boolean user = (bits & (store ? 2 : 1)) != 0;
                boolean supervisor = (bits & (store ? 8 : 4)) != 0;
                dataIs(op, 7169, 40960 + bits, DATA_MAPPED, 7180, user ? 0 : 3);
                dataIs(op, 7169, 40960 + bits, DATA_MAPPED | SUPERVISOR, 7180, supervisor ? 0 : 3);
            }
        }
        dataIs(26, 7169, 40960 + 1008, DATA_MAPPED, 7180, 3);
        dataIs(28, 7169, 40960 + 1008, DATA_MAPPED | SUPERVISOR, 7180, 3);
        dataIs(26, 7169, 40960, 0, 7180, 0);
    }

    private static void dataEnds() {
        Check.sentence("MAPS", "the place below 65536");
        for (int sr : new int[] {DATA_MAPPED, DATA_MAPPED | SUPERVISOR}) {
            for (int op : new int[] {26, 28}) {
                dataIs(op, 7169, 64512 + 15, sr, 7168, 0);
                dataIs(op, 7169, 64512 + 15, sr, 7168 + 1020, 0);
                dataIs(op, 7169, 65536 + 15, sr, 7168, 2);
                dataIs(op, 7169, 65536 + 15, sr, 7168 + 1020, 2);
                dataIs(op, 7169, 65536 + 40960 + 15, sr, 7168, 2);
                dataIs(op, 7169, LEAST + 15, sr, 7168, 2);
                dataIs(op, 7169, 0xFFFFFC0F, sr, 7168 + 1020, 2);
            }
            dataIs(27, 7169, 64512 + 15, sr, 7168 + 1023, 0);
            dataIs(29, 7169, 64512 + 15, sr, 7168 + 1023, 0);
            dataIs(54, 7169, 64512 + 15, sr, 7168 + 1022, 0);
        }
    }

    private static void storesToCode() {
        Check.sentence("MAPS", "for a STORE not below 32768 (else 2)");
        int sr = DATA_MAPPED | SUPERVISOR;
        int[] last = {1020, 1023, 1022};
        int[] stores = {28, 29, 54};
        for (int k = 0; k < stores.length; k++) {
            dataIs(stores[k], 7169, 31744 + 15, sr, 7168 + last[k], 2);
            dataIs(stores[k], 7169, 15, sr, 7168, 2);
            dataIs(stores[k], 7169, 32768 + 15, sr, 7168, 0);
        }
        for (int load : new int[] {26, 27, 51, 52, 53}) {
            dataIs(load, 7169, 31744 + 15, sr, 7168 + 1020, 0);
            dataIs(load, 7169, 32768 + 15, sr, 7168, 0);
        }
    }

    private static void dataWithoutMap() {
        Check.sentence("MAPS", "Data likewise, if DATA MAPPED");
        dataIs(28, 0, 0, SUPERVISOR, 32768, 0);
        dataIs(28, 0, 0, 0, 32768, 0);
        dataIs(28, 0, 0, SUPERVISOR, 32764, 2);
        dataIs(28, 0, 0, SUPERVISOR, 65532, 0);
        dataIs(28, 0, 0, SUPERVISOR, 65536, 2);
        dataIs(28, 0, 0, SUPERVISOR, 65536 + 40000, 2);
        dataIs(28, 0, 0, SUPERVISOR, LEAST, 2);
        dataIs(26, 0, 0, 0, 65532, 0);
        dataIs(26, 0, 0, 0, 65536, 2);
        dataIs(26, 0, 0, 0, -4, 2);
        dataIs(26, 0, 0, 0, LEAST, 2);
        dataIs(26, 0, 0, 0, 32764, 0);
    }

    private static void dataOffItsPlace() {
        Check.sentence("MAPS", "v has to be a multiple of 4, if it is of a word, of 2 for a half"
                + " (else 6)");
        int[][] sizes = {{26, 4}, {28, 4}, {52, 2}, {53, 2}, {54, 2}, {27, 1}, {51, 1}, {29, 1}};
        for (int[] one : sizes) {
            for (int low = 0; low < 4; low++) {
                int due = low % one[1] == 0 ? 0 : 6;
                dataIs(one[0], 0, 0, SUPERVISOR, 40004 + low, due);
                dataIs(one[0], 7169, 40960 + 15, DATA_MAPPED, 7180 + low, due);
            }
        }
    }

    private static void firstOfCode() {
        Check.sentence("MAPS", "The first of these is the exception");
        // 6, 10, 4, 2, with all that could be wrong behind it wrong.
        codeIs(0, 32768, CODE_MAPPED, 5137, 6);
        codeIs(0, 32768, CODE_MAPPED, 5136, 10);
        codeIs(5121, 32768, CODE_MAPPED, 5136, 4);
        codeIs(5121, 32769, CODE_MAPPED, 5136, 2);
        codeIs(5121, 8193, CODE_MAPPED, 5136, 0);
    }

    private static void firstOfData() {
        Check.sentence("MAPS", "but ahead of all that v has to be");
        // 6, 9, 3, 2 in the same way.
        for (int op : new int[] {26, 28}) {
            dataIs(op, 0, 65536, DATA_MAPPED, 7182, 6);
            dataIs(op, 0, 65536, DATA_MAPPED, 7180, 9);
            dataIs(op, 7169, 65536, DATA_MAPPED, 7180, 3);
            dataIs(op, 7169, 65536 + 3, DATA_MAPPED, 7180, 2);
            dataIs(op, 7169, 40960 + 3, DATA_MAPPED, 7180, 0);
            dataIs(op, 0, 0, SUPERVISOR, 65538, 6);
        }
        dataIs(28, 0, 0, SUPERVISOR, 32766, 6);
        dataIs(54, 0, 0, SUPERVISOR, 32767, 6);
    }

    private static void addressesOfExceptions() {
        Check.sentence("MAPS", "EEA is v then");
        // EEA was 77; only the exceptions of maps change it.
        int[][] cases = {
            {Code.imm(26, 1, 0, 1), 1}, {Code.imm(28, 1, 0, -8), -8}, {Code.imm(29, 1, 0, 4), 4},
            {Code.sys(), 77}, {Code.trap(), 77}, {Code.abd(63, 0, 0, 0), 77},
            {Code.abd(18, 10, 0, 0), 77}, {Code.abd(9, 1, 0, 0), 77}, {Code.nothing(), 77},
        };
        for (int[] one : cases) {
            Bench bench = new Bench();
            bench.special(3, 20, 77).special(0, 21, 513).put(one[0]).halts().run(60);
            bench.special("EEA behind " + Integer.toHexString(one[0]), 3, one[1]);
        }
        // Behind one of a map, too.
        Bench later = new Bench();
        later.register(20, 77).put(Code.imm(26, 1, 0, 1)).halts();
        later.at(1536).put(Code.write(3, 20), Code.sys()).run(60);
        later.event("SYS behind another exception", 2, 1540, 12);
        later.special("EEA behind SYS", 3, 77);
        for (int exception = 5; exception <= 8; exception += 3) {
            Bench bench = new Bench();
            bench.lines(0, 1).special(3, 20, 77).special(6, 21, 1).special(5, 22, PENDING);
            bench.special(0, 23, SUPERVISOR | (exception == 5 ? TIMER_ON : LINES_ON));
            bench.put(Code.imm(26, 1, 0, 1)).halts().run(60);
            bench.event("exception " + exception, 4, 272, exception);
            bench.special("EEA behind exception " + exception, 3, 77);
        }
    }

    // ---- ONE BY ONE

    private static void timerOnAndPending() {
        Check.sentence("ONE BY ONE", "If TIMER ON and PENDING: exception 5");
        for (int on = 0; on <= TIMER_ON; on += TIMER_ON) {
            for (int timer : new int[] {0, PENDING, PENDING - 1, 0x7FFFFFFF, 0x6FFFFFFF}) {
                boolean due = on != 0 && (timer & PENDING) != 0;
                Bench bench = new Bench();
                bench.special(5, 1, timer).special(0, 2, SUPERVISOR | on).put(Code.imm(10, 3, 0, 1));
                bench.halts().run(40);
                bench.event("TIMER " + timer + " with " + on, 2, 264, due ? 5 : 0);
                bench.register("TIMER " + timer + " with " + on, 3, due ? 0 : 1);
            }
        }
    }

    private static void linesOnAndMask() {
        Check.sentence("ONE BY ONE", "Else if LINES ON, and one bit of STATUS is in MASK: exception 8");
        int[][] cases = {
            {0, 0}, {0, -1}, {-1, 0}, {1, 1}, {1, 2}, {LEAST, LEAST}, {LEAST, 1}, {-1, -1}, {3, 6},
            {5, 10}, {-1, 1}, {LEAST, -1},
        };
        for (int[] one : cases) {
            for (int on = 0; on <= LINES_ON; on += LINES_ON) {
                boolean due = on != 0 && (one[0] & one[1]) != 0;
                Bench bench = new Bench();
                bench.lines(0, one[0]).special(6, 1, one[1]).special(0, 2, SUPERVISOR | on);
                bench.put(Code.imm(10, 3, 0, 1)).halts().run(40);
                String name = "LINES " + one[0] + ", MASK " + one[1] + ", SR " + on;
                bench.event(name, 2, 264, due ? 8 : 0);
                bench.register(name, 3, due ? 0 : 1);
            }
        }
    }

    private static void heldInMask() {
        Check.sentence("ONE BY ONE", "one bit of STATUS is in MASK");
        // Line 1 is up at RETIRED 2 alone; what is held of it is in STATUS, or is not.
        for (int latch = 0; latch < 4; latch++) {
            Bench bench = new Bench();
            bench.lines(2, 2).lines(3, 0).special(9, 1, latch).special(6, 2, 2);
            bench.put(Code.nothing(), Code.nothing()).special(0, 3, SUPERVISOR | LINES_ON);
            bench.put(Code.nothing()).halts().run(50);
            bench.event("LATCH " + latch, 5, 276, (latch & 2) != 0 ? 8 : 0);
        }
    }

    private static void timerAheadOfLines() {
        Check.sentence("ONE BY ONE", "Else the instruction at PC is read by the map of code and done");
        int[] words = {Code.imm(26, 1, 0, 1), Code.sys(), Code.abd(63, 0, 0, 0)};
        int[] own = {6, 12, 7};
        for (int k = 0; k < words.length; k++) {
            for (int sr = 0; sr < 8; sr += 2) {
                int due = (sr & TIMER_ON) != 0 ? 5 : (sr & LINES_ON) != 0 ? 8 : own[k];
                Bench bench = new Bench();
                bench.lines(0, 1).special(6, 1, 1).special(5, 2, PENDING);
                bench.special(0, 3, SUPERVISOR | sr).put(words[k]).halts().run(40);
                bench.event("SR " + sr, 3, 268, due);
                bench.special("EPC", 1, due == 12 ? 272 : 268);
            }
        }
        // Where no code can be read, too.
        for (int sr = 0; sr < 8; sr += 2) {
            int due = (sr & TIMER_ON) != 0 ? 5 : (sr & LINES_ON) != 0 ? 8 : 2;
            Bench bench = new Bench();
            bench.lines(0, 1).special(6, 1, 1).special(5, 2, PENDING).special(1, 3, 32768);
            bench.special(2, 4, SUPERVISOR | sr).put(Code.back()).halts().run(50);
            bench.event("no code, SR " + sr, 5, 32768, due);
            bench.special("EEA", 3, due == 2 ? 32768 : 0);
        }
    }

    private static void pcGoesOn() {
        Check.sentence("ONE BY ONE", "PC goes on (behind a SLOT to TARGET); RETIRED is 1 more");
        // All but the branch are SINGLE, so that no two of them have their EVENTS at once.
        Bench bench = new Bench();
        bench.put(Code.read(1, 8), Code.jump(20, 9), Code.read(2, 8)).halts();
        bench.at(296).put(Code.read(3, 8), Code.sys()).at(3072).put(Code.read(4, 8)).run(5);
        int[][] due = {{260, 1}, {264, 2}, {296, 3}, {300, 4}, {3072, 4}, {3076, 5}};
        for (int event = 0; event < due.length; event++) {
            for (int k = 0; k < 20 && bench.x.lookAt(1) <= event; k++) {
                bench.run(1);
            }
            Check.due("PC behind event " + event, bench.x.placeOf(0), due[event][0]);
            bench.special("RETIRED behind event " + event, 8, due[event][1]);
        }
    }

    private static void pcGoesRound() {
        Check.sentence("ONE BY ONE", "PC goes on");
        // The last word of all addresses and the first; only maps give the last one a place.
        int[][] cases = {{Code.imm(10, 9, 0, 7), 0, 7}, {Code.jump(21, 3), 8, 0}, {Code.jump(22, 3), 4, 0}};
        for (int[] one : cases) {
            boolean branch = one[0] != cases[0][0];
            Bench bench = new Bench();
            bench.special(1024 + 15, 1, 0xFFFFFC01).special(1152 + 15, 2, 8192 + 4);
            bench.special(1024, 3, 1).special(1152, 4, 9216 + 4).special(1, 5, -4).special(2, 6, 17);
            bench.put(Code.back()).halts().at(8192 + 1020).put(one[0]);
            bench.at(9216).put(Code.read(8, 8), Code.read(8, 8), Code.read(8, 8)).run(100);
            bench.event("the last word", 7, -4, 0);
            bench.event("the first word", 8, 0, 0);
            Check.due("its slot", bench.x.eventOf(8, 5), branch ? 1 : 0);
            Check.due("the next", bench.x.valueOf(9, 0), branch ? one[1] : 4);
            bench.register("what it wrote", 9, one[2]);
            bench.register("PC + 8", 31, one[0] >>> 26 == 21 ? 4 : 0);
        }
    }

    /** COUNT and TIMER are written, and then so many READs are RETIRED. */
    private static Bench timer(int count, int timer, int retired) {
        Bench bench = new Bench();
        bench.special(4, 2, count).special(5, 1, timer);
        for (int k = 0; k < retired; k++) {
            bench.put(Code.read(9, 0));
        }
        return bench.halts().run(12 + 6 * retired);
    }

    private static void timerIs(Bench bench, String name, int count, int timer) {
        bench.special(name + ": COUNT", 4, count);
        bench.special(name + ": TIMER", 5, timer);
    }

    private static void modes() {
        Check.sentence("ONE BY ONE", "if MODE is not 0, COUNT is 1 more");
        for (int mode = 0; mode < 4; mode++) {
            for (int retired = 0; retired < 4; retired++) {
                Bench bench = timer(100, mode << 29 | 50, retired);
                timerIs(bench, "MODE " + mode, mode == 0 ? 100 : 101 + retired, mode << 29 | 50);
            }
        }
        Bench sys = new Bench();
        sys.special(5, 1, 3 << 29 | 9).put(Code.sys()).halts().run(12);
        timerIs(sys, "an exception is not RETIRED", 1, 3 << 29 | 9);
        sys.special("RETIRED", 8, 1);
    }

    private static void countGoesRound() {
        Check.sentence("ONE BY ONE", "(0 behind 2^28 - 1)");
        for (int mode = 1; mode < 4; mode++) {
            timerIs(timer(WIDEST_COUNT - 1, mode << 29 | 50, 0), "ahead", WIDEST_COUNT,
                    mode << 29 | 50);
            timerIs(timer(WIDEST_COUNT, mode << 29 | 50, 0), "0", 0, mode << 29 | 50);
            timerIs(timer(WIDEST_COUNT, mode << 29 | 50, 1), "1", 1, mode << 29 | 50);
        }
        // 0 is PERIOD then, and the greatest COUNT can be, too.
        timerIs(timer(WIDEST_COUNT, 3 << 29, 0), "PERIOD 0", 0, 3 << 29 | PENDING);
        timerIs(timer(WIDEST_COUNT, 3 << 29, 1), "PERIOD 0", 1, 3 << 29 | PENDING);
        timerIs(timer(WIDEST_COUNT - 1, 3 << 29, 0), "PERIOD 0 ahead", WIDEST_COUNT, 3 << 29);
        int widest = 3 << 29 | WIDEST_COUNT;
        timerIs(timer(WIDEST_COUNT - 1, widest, 0), "the widest", WIDEST_COUNT, widest | PENDING);
        timerIs(timer(WIDEST_COUNT - 1, widest, 1), "the widest", 0, widest | PENDING);
        timerIs(timer(WIDEST_COUNT, widest, 0), "past it", 0, widest);
    }

    private static void periods() {
        Check.sentence("ONE BY ONE", "and if it is PERIOD then, PENDING is set");
        for (int mode = 0; mode < 4; mode++) {
            int timer = mode << 29 | 5;
            for (int count = 2; count < 8; count++) {
                Bench bench = timer(count, timer, 0);
                boolean due = mode != 0 && count == 4;
                int pending = due ? PENDING : 0;
                int kept = due && mode == 2 ? 5 : timer;
                int behind = mode == 0 ? count : due && mode == 1 ? 0 : count + 1;
                timerIs(bench, "MODE " + mode + ", COUNT " + count, behind, kept | pending);
            }
        }
        // COUNT is 0 in MODE 1, so that each PERIOD is as long as the one before.
        timerIs(timer(0, 1 << 29 | 1, 0), "PERIOD 1", 0, 1 << 29 | PENDING | 1);
        timerIs(timer(0, 1 << 29 | 1, 5), "PERIOD 1", 0, 1 << 29 | PENDING | 1);
        timerIs(timer(0, 1 << 29 | 3, 2), "PERIOD 3", 0, 1 << 29 | PENDING | 3);
        timerIs(timer(0, 1 << 29 | 3, 3), "PERIOD 3", 1, 1 << 29 | PENDING | 3);
        timerIs(timer(0, 1 << 29 | 3, 5), "PERIOD 3", 0, 1 << 29 | PENDING | 3);
        timerIs(timer(0, 1 << 29, 5), "PERIOD 0", 6, 1 << 29);
        timerIs(timer(0, 3 << 29 | 3, 5), "MODE 3 goes on", 6, 3 << 29 | PENDING | 3);
    }

    private static void pendingStays() {
        Check.sentence("ONE BY ONE", "(it goes only by a WRITE of TIMER)");
        Bench bench = new Bench();
        bench.special(5, 1, PENDING | 7).special(4, 2, 7).special(0, 3, SUPERVISOR | TIMER_ON).halt();
        bench.at(1280).put(Code.write(4, 0), Code.nothing(), Code.sys());
        bench.at(3072).put(Code.read(8, 5), Code.write(5, 0), Code.read(9, 5)).halt().run(60);
        bench.event("exception 5", 3, 268, 5);
        bench.register("it stays", 8, PENDING | 7);
        bench.register("it goes", 9, 0);
        bench.x.restart();
        bench.special("restart() ends it, too", 5, 0);
    }

    private static void modeTwoEnds() {
        Check.sentence("ONE BY ONE", "COUNT is 0 in MODE 1 and stays as it is in 2 and 3, MODE is 0 if"
                + " it was 2");
        timerIs(timer(3, 2 << 29 | 5, 0), "ahead", 4, 2 << 29 | 5);
        timerIs(timer(3, 2 << 29 | 5, 1), "then", 5, PENDING | 5);
        timerIs(timer(3, 2 << 29 | 5, 4), "behind", 5, PENDING | 5);
        timerIs(timer(3, 3 << 29 | 5, 1), "MODE 3 then", 5, 3 << 29 | PENDING | 5);
        timerIs(timer(3, 3 << 29 | 5, 4), "MODE 3 behind", 8, 3 << 29 | PENDING | 5);
        timerIs(timer(3, 1 << 29 | 5, 1), "MODE 1 then", 0, 1 << 29 | PENDING | 5);
        timerIs(timer(3, 1 << 29 | 5, 4), "MODE 1 behind", 3, 1 << 29 | PENDING | 5);
    }

    private static void ownWritesFirst() {
        Check.sentence("ONE BY ONE", "(What the instruction writes itself, TIMER, LATCH, HELD, too, is"
                + " written ahead of all that.)");
        // A WRITE of TIMER that ends its MODE is not counted, one of COUNT is.
        Bench off = new Bench();
        off.special(5, 1, 3 << 29 | 9).put(Code.write(5, 0)).halts().run(12);
        timerIs(off, "TIMER off", 1, 0);
        Bench count = new Bench();
        count.special(5, 1, 3 << 29 | 9).special(4, 2, 8).halts().run(12);
        timerIs(count, "COUNT to PERIOD", 9, 3 << 29 | PENDING | 9);
        Bench past = new Bench();
        past.special(5, 1, 3 << 29 | 9).special(4, 2, 9).halts().run(12);
        timerIs(past, "COUNT past PERIOD", 10, 3 << 29 | 9);
        Bench clears = new Bench();
        clears.special(4, 1, 3).special(5, 2, 3 << 29 | 4).special(5, 3, 3 << 29 | 5).halts().run(18);
        timerIs(clears, "PENDING is cleared and set at once", 5, 3 << 29 | PENDING | 5);
        Bench latch = new Bench();
        latch.lines(1, 5).lines(2, 0).special(9, 1, 4).halts().run(30);
        Check.due("LATCH holds at once", latch.x.lookAt(8), 4);
        Bench held = new Bench();
        held.lines(0, 5).special(9, 1, 5).special(7, 2, 1).halts().run(30);
        Check.due("HELD again at once", held.x.lookAt(8), 5);
        Bench last = new Bench();
        last.lines(1, 5).lines(2, 4).special(9, 1, 5).special(7, 2, 5).halts().run(30);
        Check.due("HELD by what LINES are then", last.x.lookAt(8), 4);
        Bench noLatch = new Bench();
        noLatch.lines(2, 5).special(9, 1, 5).put(Code.write(9, 0)).halts().run(30);
        Check.due("LATCH is gone ahead of it", noLatch.x.lookAt(8), 0);
    }

    private static void latchedThen() {
        Check.sentence("ONE BY ONE", "then HELD has the bits that LINES, at RETIRED as it is then, and"
                + " LATCH have besides");
        for (int from = 0; from < 6; from++) {
            // Line 0 is up at one RETIRED alone; LATCH is there from RETIRED 1 on.
            Bench bench = new Bench();
            bench.lines(from, 3).lines(from + 1, 0).special(9, 1, 1);
            bench.put(Code.read(9, 0), Code.read(9, 0), Code.read(9, 0), Code.read(9, 0));
            for (int retired = 1; retired < 6; retired++) {
                bench.run(6);
                boolean due = from >= 1 && retired >= from;
                Check.due("line at " + from + ", RETIRED " + retired, bench.x.lookAt(8), due ? 1 : 0);
            }
        }
        // An exception is not RETIRED, and holds nothing.
        Bench sys = new Bench();
        sys.lines(2, 1).special(9, 1, 1).put(Code.sys()).at(3072).put(Code.read(3, 7)).run(12);
        Check.due("behind an exception", sys.x.lookAt(8), 0);
        sys.run(6);
        Check.due("behind the next", sys.x.lookAt(8), 1);
        sys.register("what that read", 3, 0);
    }

    private static void retiredAhead() {
        Check.sentence("LINES", "go by RETIRED as it is ahead of that instruction");
        for (int from = 2; from < 6; from++) {
            Bench bench = new Bench();
            bench.lines(from, 1).special(6, 1, 1).special(0, 2, SUPERVISOR | LINES_ON);
            bench.put(Code.nothing(), Code.nothing(), Code.nothing(), Code.nothing()).halts().run(40);
            bench.event("a line from " + from, from, 256 + 4 * from, 8);
            bench.event("a line from " + from, from - 1, 252 + 4 * from, 0);
        }
        for (int period = 2; period < 6; period++) {
            Bench bench = new Bench();
            bench.special(5, 1, 1 << 29 | period).special(0, 2, SUPERVISOR | TIMER_ON);
            bench.put(Code.nothing(), Code.nothing(), Code.nothing(), Code.nothing()).halts().run(40);
            bench.event("a PERIOD of " + period, period, 256 + 4 * period, 5);
            bench.event("a PERIOD of " + period, period - 1, 252 + 4 * period, 0);
        }
        Bench reads = new Bench();
        reads.lines(1, 7).put(Code.read(1, 7), Code.read(2, 7), Code.read(3, 8), Code.read(4, 8));
        reads.run(40);
        reads.register("STATUS at 0", 1, 0);
        reads.register("STATUS at 1", 2, 7);
        reads.register("RETIRED at 2", 3, 2);
        reads.register("RETIRED at 3", 4, 3);
    }

    // ---- EXCEPTION

    private static void nothingIsDone() {
        Check.sentence("EXCEPTION", "nothing of the instruction is done");
        int[] words = {
            Code.abd(9, 3, 1, 2), Code.abd(8, 3, 1, 2), Code.imm(26, 3, 1, 0), Code.imm(28, 3, 1, 0),
            Code.abd(18, 0, 1, 1), Code.abd(38, 0, 1, 2), Code.abd(41, 3, 0, 0), Code.jump(21, 9),
            Code.abd(34, 3, 1, 1), Code.read(3, 8), Code.write(6, 1), Code.write(9, 1),
        };
        for (int word : words) {
            Bench bench = new Bench();
            bench.register(1, 40000).register(2, 7).special(11, 20, 5).special(5, 21, PENDING);
            bench.special(0, 22, SUPERVISOR | TIMER_ON).put(word).halts().run(80);
            String name = "exception 5 at " + Integer.toHexString(word);
            bench.event(name, 3, 268, 5);
            bench.register(name, 3, 0);
            bench.register(name, 31, 0);
            bench.special(name, 0, SUPERVISOR);
            bench.special(name, 1, 268);
            bench.special(name, 2, SUPERVISOR | TIMER_ON);
            bench.special(name, 6, 0);
            bench.special(name, 9, 0);
            bench.special(name, 11, 5);
            Check.due(name + ": word", bench.x.wordAt(40000), 0);
            Check.due(name + ": register", bench.x.eventOf(3, 2), -1);
            Check.due(name + ": goes on", bench.x.valueOf(4, 0), 1280);
        }
    }

    private static void exceptionPlaces() {
        Check.sentence("EXCEPTION", "EPC is PC, for 12 PC + 4, in a SLOT always the address of the"
                + " branch");
        int[][] cases = {
            {Code.sys(), 12, 264}, {Code.trap(), 14, 260}, {Code.abd(63, 0, 0, 0), 7, 260},
            {Code.imm(26, 1, 0, 2), 6, 260}, {Code.imm(28, 1, 0, 0), 2, 260},
            {Code.abd(9, 1, 0, 0), 11, 260},
        };
        for (int[] one : cases) {
            Bench bench = new Bench();
            bench.special(0, 20, 513).put(one[0]).halts().run(40);
            String name = Integer.toHexString(one[0]);
            bench.event(name, 1, 260, one[1]);
            bench.special(name, 1, one[2]);
            Bench slot = new Bench();
            slot.special(0, 20, 513).put(Code.jump(20, 9), one[0]).halts().run(50);
            slot.event(name + " in a slot", 2, 264, one[1]);
            slot.special(name + " in a slot", 1, 260);
            slot.special(name + " in a slot", 0, SUPERVISOR | IN_SLOT);
        }
        // The slot of a branch that lies in another page than its branch, and can not be read.
        Bench far = new Bench();
        far.register(1, 32764).at(32764).put(Code.jump(20, 9)).at(256);
        far.put(Code.abd(24, 0, 0, 1), Code.nothing()).halts().run(30);
        far.event("a slot that can not be read", 3, 32768, 2);
        far.special("EPC", 1, 32764);
        far.special("EEA", 3, 32768);
        Check.due("it is in a slot", far.x.eventOf(3, 5), 1);
        for (int exception = 5; exception <= 8; exception += 3) {
            boolean timer = exception == 5;
            Bench bench = new Bench();
            bench.lines(3, 1).special(timer ? 5 : 6, 1, timer ? 1 << 29 | 3 : 1);
            bench.special(0, 2, SUPERVISOR | (timer ? TIMER_ON : LINES_ON));
            bench.put(Code.jump(20, 9), Code.nothing()).halts().run(40);
            bench.event("in a slot", 3, 268, exception);
            bench.special("exception " + exception + " in a slot", 1, 264);
            bench.special("exception " + exception + " in a slot", 0, SUPERVISOR | IN_SLOT);
        }
    }

    private static void whatSrWas() {
        Check.sentence("EXCEPTION", "ESR is SR");
        int[][] cases = {
            {Code.imm(28, 1, 0, 0), 2, 0}, {Code.imm(26, 1, 0, 1), 6, 0}, {Code.abd(63, 0, 0, 0), 7, 0},
            {Code.abd(9, 1, 0, 0), 11, 512}, {Code.sys(), 12, 0}, {Code.trap(), 14, 0},
            {Code.imm(26, 1, 0, 0), 9, DATA_MAPPED}, {Code.nothing(), 5, TIMER_ON},
            {Code.nothing(), 8, LINES_ON}, {Code.nothing(), 10, CODE_MAPPED},
        };
        for (int[] one : cases) {
            for (int others : new int[] {0, FLAG, IN_SLOT, CARRY, OVERFLOW, SUPERVISOR, 481}) {
                int sr = one[2] | others;
                Bench bench = new Bench();
                bench.lines(0, 1).special(6, 1, 1).special(5, 2, PENDING).special(2, 3, -1);
                bench.special(0, 4, sr).put(one[0]).halts().run(60);
                bench.event("SR " + sr, 4, 272, one[1]);
                bench.special("ESR", 2, sr);
            }
        }
    }

    private static void bitsThatStay() {
        Check.sentence("EXCEPTION", "of SR only FLAG, CARRY, OVERFLOW stay, SUPERVISOR is set, and"
                + " IN SLOT, if PC was");
        int keep = FLAG | CARRY | OVERFLOW;
        // TIMER ON without PENDING and LINES ON without MASK do nothing; code is mapped to itself.
        for (int sr = 0; sr < 1024; sr += 31) {
            Bench bench = new Bench();
            bench.special(1024 + 2, 1, 2049).special(1152 + 2, 2, 2048 + 15).special(1, 3, 2048 + 64);
            bench.special(2, 4, sr).put(Code.back()).at(2048 + 64).put(Code.sys()).halts();
            bench.run(36);
            bench.event("SYS with " + sr, 5, 2048 + 64, 12);
            bench.special("ESR", 2, sr);
            bench.special("SR", 0, sr & keep | SUPERVISOR);
            Bench slot = new Bench();
            slot.special(1024 + 2, 1, 2049).special(1152 + 2, 2, 2048 + 15).special(1, 3, 2048 + 64);
            slot.special(2, 4, sr).put(Code.back()).at(2048 + 64).put(Code.jump(20, 3), Code.sys());
            slot.halts().run(42);
            slot.event("SYS in a slot with " + sr, 6, 2048 + 68, 12);
            slot.special("ESR", 2, sr);
            slot.special("SR", 0, sr & keep | SUPERVISOR | IN_SLOT);
        }
    }

    private static void handlers() {
        Check.sentence("EXCEPTION", "PC is 256 * e, not in a SLOT");
        int[][] words = {{Code.imm(28, 1, 0, 0), 2}, {Code.imm(26, 1, 0, 1), 6},
            {Code.abd(58, 0, 0, 0), 7}, {Code.abd(9, 1, 0, 0), 11}, {Code.sys(), 12}, {Code.trap(), 14}};
        for (int[] one : words) {
            for (int inSlot = 0; inSlot < 2; inSlot++) {
                Bench bench = new Bench();
                bench.special(0, 20, 513);
                if (inSlot == 1) {
                    bench.put(Code.jump(20, 9));
                }
                bench.put(one[0]);
                for (int exception = 2; exception < 15; exception++) {
                    bench.at(256 * exception).put(Code.abd(9, exception, 0, 0));
                }
                bench.run(12);
                for (int k = 0; k < 30 && bench.x.lookAt(2) == 0; k++) {
                    bench.run(1);
                }
                Check.due("PC of " + one[1], bench.x.placeOf(0), 256 * one[1]);
                Check.due("branch of " + one[1], bench.x.placeOf(1), 0);
                Check.due("TARGET of " + one[1], bench.x.placeOf(2), 0);
                bench.run(30);
                Check.due("the next is", bench.x.valueOf(2 + inSlot, 0), 256 * one[1]);
                Check.due("not in a slot", bench.x.eventOf(2 + inSlot, 5), 0);
            }
        }
    }

    private static void oneEventEach() {
        Check.sentence("EVENTS", "are what is RETIRED and EXCEPTIONS, one of each instruction that is"
                + " come to");
        Bench bench = new Bench();
        bench.put(Code.nothing(), Code.sys(), Code.nothing()).at(3072).put(Code.back()).run(60);
        int[][] due = {{256, 0}, {260, 12}, {3072, 0}, {264, 0}, {268, 0}};
        for (int event = 0; event < due.length; event++) {
            bench.event("one each", event, due[event][0], due[event][1]);
        }
        Check.due("RETIRED and EXCEPTIONS", bench.x.specialOf(8) + bench.x.lookAt(2),
                bench.x.lookAt(1));
    }
}
