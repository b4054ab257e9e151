/**
 * One test of its own for each sentence of promises 1 to 10 that names an edge: too small, too large,
 * empty, full, a call that is refused. No object is used for more than 512 calls.
 */
public final class CallEdgesTest {
    private static final int LEAST = Integer.MIN_VALUE;
    private static final int MOST = Integer.MAX_VALUE;
    private static final int[] NO_ADDRESSES = {
        LEAST, LEAST + 256, -65536, -65280, -256, -8, -5, -4, -3, -2, -1, 1, 2, 3, 5, 6, 7, 255, 257,
        258, 259, 32765, 32767, 32769, 65529, 65531, 65533, 65534, 65535, 65536, 65537, 65540, 65792,
        131072, 1 << 30, MOST - 3, MOST,
    };
    private static final int[] NO_RUNS = {LEAST, -2000, -1, 0, 2001, 2002, 4000, 60000, MOST};

    private CallEdgesTest() {
    }

    public static void main(String[] args) {
        setsAsNamed();
        setsBetween();
        setsBelow();
        newObject();
        wordsThatAreTaken();
        addressesThatAreNone();
        wordsBehindACycle();
        registersThatAreTaken();
        registersThatAreNone();
        registersBehindACycle();
        linesFromZero();
        linesBelowZero();
        linesNotAbove();
        linesThatAreFull();
        linesBehindACycle();
        linesFromCountOn();
        refusedCalls();
        restartFromAnywhere();
        restartOfSets();
        restartLeavesMemory();
        restartTakesCallsAgain();
        restartEndsLines();
        runsThatAreNone();
        leastAndMostRun();
        sixtyThousand();
        eventsOfTheLastCycle();
        noEventsYet();
        askedRegisters();
        askedSpecials();
        askedSets();
        askedWords();
        askedPlacesOutsideSlots();
        askedPlacesThatAreNone();
        Check.end("CallEdgesTest");
    }

    // ---- Promise 1

    private static void setsAsNamed() {
        Check.sentence("Promise 1", "sets S: 16, 32, 64 or 128");
        sets(16, 16);
        sets(32, 32);
        sets(64, 64);
        sets(128, 128);
    }

    private static void setsBetween() {
        Check.sentence("Promise 1", "others count as the greatest of these that is not above it");
        sets(17, 16);
        sets(31, 16);
        sets(33, 32);
        sets(63, 32);
        sets(65, 64);
        sets(127, 64);
        sets(129, 128);
        sets(256, 128);
        sets(MOST, 128);
    }

    private static void setsBelow() {
        Check.sentence("Promise 1", "16 if there is none");
        sets(15, 16);
        sets(8, 16);
        sets(1, 16);
        sets(0, 16);
        sets(-1, 16);
        sets(-64, 16);
        sets(LEAST, 16);
    }

    /** An object made with a number has so many sets: the last one is there, the next one is not. */
    private static void sets(int given, int due) {
        pagesGoRound(given, due);
        Bench bench = new Bench(given);
        String name = "new TwinIssue(" + given + ")";
        Check.due(name + " lookAt(7)", bench.x.lookAt(7), due);
        int register = 1;
        for (int first = 1024; first < 1536; first += 128) {
            bench.special(first + due - 1, register, register + 100);
            if (due < 128) {
                bench.special(first + due, register + 1, 9);
            }
            register += 2;
        }
        bench.run(60);
        register = 1;
        for (int first = 1024; first < 1536; first += 128) {
            bench.special(name, first + due - 1, register + 100);
            if (due < 128) {
                bench.special(name, first + due, 0);
            }
            register += 2;
        }
    }

    /** The page of that number is in set 0. */
    private static void pagesGoRound(int given, int sets) {
        Bench bench = new Bench(given);
        bench.at(40960).put(77).at(256).register(6, sets * 1024);
        bench.special(1280, 1, sets * 1024 + 1).special(1408, 2, 40960 + 4).special(0, 3, 9);
        bench.put(Code.imm(26, 7, 6, 0)).halts().run(30);
        bench.register("new TwinIssue(" + given + "), page " + sets, 7, 77);
    }

    private static void newObject() {
        Check.sentence("Promise 1", "All as at first; no lines");
        TwinIssue x = new TwinIssue(16);
        int[] due = new int[Picture.of(x).length];
        due[32] = 1;
        due[52] = 256;
        due[59] = -1;
        due[62] = 16;
        for (int what = 0; what < 8; what++) {
            due[64 + what] = -1;
            due[64 + 11 + what] = -1;
        }
        Check.due("all that can be asked", Picture.of(x), due);
        everySpecialAsAtFirst(0);
        everySpecialAsAtFirst(400);
        everySpecialAsAtFirst(800);
        everySpecialAsAtFirst(1200);
        for (int half = 0; half < 2; half++) {
            TwinIssue y = new TwinIssue(128);
            for (int k = 0; k < 512; k++) {
                int address = 64 * k + 32768 * half;
                Check.due("wordAt(" + address + ")", y.wordAt(address), 0);
            }
        }
    }

    private static void everySpecialAsAtFirst(int first) {
        TwinIssue x = new TwinIssue(128);
        for (int special = first; special < first + 400; special++) {
            Check.due("specialOf(" + special + ")", x.specialOf(special), special == 0 ? 1 : 0);
        }
    }

    // ---- Promise 2

    private static void wordsThatAreTaken() {
        Check.sentence("Promise 2", "A word of MEMORY: true");
        TwinIssue x = new TwinIssue(16);
        int[] addresses = {0, 4, 252, 256, 1020, 1024, 32760, 32764, 32768, 32772, 65528, 65532};
        int[] words = {LEAST, MOST, -1, 1, 0x01020304, 7, 6, 5, 4, 3, 2, 0x80};
        for (int k = 0; k < addresses.length; k++) {
            Check.due("giveWord " + addresses[k], x.giveWord(addresses[k], words[k]), true);
        }
        for (int k = 0; k < addresses.length; k++) {
            Check.due("wordAt " + addresses[k], x.wordAt(addresses[k]), words[k]);
        }
        Check.due("beside it", x.wordAt(8), 0);
        Check.due("beside it", x.wordAt(1028), 0);
        Check.due("another word there", x.giveWord(256, 77), true);
        Check.due("it is there", x.wordAt(256), 77);
        Check.due("the word 0 there", x.giveWord(256, 0), true);
        Check.due("it is there", x.wordAt(256), 0);
    }

    private static void addressesThatAreNone() {
        Check.sentence("Promise 2", "false if address is no multiple of 4 from 0 to 65532");
        TwinIssue x = new TwinIssue(16);
        int[] before = Picture.of(x);
        for (int address : NO_ADDRESSES) {
            Check.due("giveWord(" + address + ")", x.giveWord(address, -1), false);
            Check.due("giveWord(" + address + ") of 0", x.giveWord(address, 0), false);
        }
        Check.due("nothing is changed", Picture.of(x), before);
    }

    private static void wordsBehindACycle() {
        Check.sentence("Promise 2", "or a cycle has been run since the beginning or restart()");
        TwinIssue x = new TwinIssue(16);
        x.runCycles(0);
        x.runCycles(2001);
        Check.due("behind refused runs", x.giveWord(40000, 1), true);
        x.runCycles(1);
        Check.due("behind a cycle", x.giveWord(40000, 2), false);
        Check.due("it stays", x.wordAt(40000), 1);
        x.runCycles(2000);
        Check.due("behind many", x.giveWord(40000, 2), false);
        x.restart();
        Check.due("behind restart()", x.giveWord(40000, 3), true);
        Check.due("it is there", x.wordAt(40000), 3);
        x.runCycles(1);
        Check.due("behind a cycle again", x.giveWord(40000, 4), false);
        Check.due("it stays", x.wordAt(40000), 3);
    }

    // ---- Promise 3

    private static void registersThatAreTaken() {
        Check.sentence("Promise 3", "A register: true");
        TwinIssue x = new TwinIssue(16);
        for (int register = 1; register < 32; register++) {
            Check.due("setRegister", x.setRegister(register, LEAST + register), true);
        }
        for (int register = 1; register < 32; register++) {
            Check.due("registerOf", x.registerOf(register), LEAST + register);
        }
        Check.due("another value", x.setRegister(31, MOST), true);
        Check.due("is there", x.registerOf(31), MOST);
    }

    private static void registersThatAreNone() {
        Check.sentence("Promise 3", "false if it is not 1 .. 31");
        TwinIssue x = new TwinIssue(16);
        int[] before = Picture.of(x);
        for (int register : new int[] {0, -1, -31, -32, 32, 33, 63, 64, 256, LEAST, LEAST + 1, MOST}) {
            Check.due("setRegister(" + register + ")", x.setRegister(register, 5), false);
        }
        Check.due("nothing is changed", Picture.of(x), before);
    }

    private static void registersBehindACycle() {
        Check.sentence("Promise 3", "or a cycle has been run, as above");
        TwinIssue x = new TwinIssue(16);
        x.runCycles(-1);
        Check.due("behind a refused run", x.setRegister(9, 1), true);
        x.runCycles(1);
        Check.due("behind a cycle", x.setRegister(9, 2), false);
        Check.due("it stays", x.registerOf(9), 1);
        x.restart();
        Check.due("behind restart()", x.setRegister(9, 3), true);
        Check.due("it is there", x.registerOf(9), 3);
        x.runCycles(1);
        Check.due("behind a cycle again", x.setRegister(9, 4), false);
    }

    // ---- Promise 4

    private static void linesFromZero() {
        Check.sentence("Promise 4", "From RETIRED count on LINES are these: true");
        TwinIssue x = new TwinIssue(16);
        Check.due("0 is the least", x.linesFrom(0, LEAST), true);
        Check.due("entries", x.lookAt(5), 1);
        Check.due("STATUS", x.specialOf(7), LEAST);
        Check.due("1 more", x.linesFrom(1, 0), true);
        Check.due("the greatest", x.linesFrom(MOST, 1), true);
        Check.due("entries", x.lookAt(5), 3);
        TwinIssue y = new TwinIssue(16);
        Check.due("the greatest alone", y.linesFrom(MOST, 1), true);
        Check.due("STATUS", y.specialOf(7), 0);
        Check.due("nothing is above it", y.linesFrom(MOST, 2), false);
        Check.due("nothing is above it", y.linesFrom(LEAST, 2), false);
        Check.due("entries", y.lookAt(5), 1);
    }

    private static void linesBelowZero() {
        Check.sentence("Promise 4", "false if count is below 0");
        TwinIssue x = new TwinIssue(16);
        for (int count : new int[] {-1, -2, -60000, LEAST}) {
            Check.due("linesFrom(" + count + ")", x.linesFrom(count, -1), false);
        }
        Check.due("no entries", x.lookAt(5), 0);
        Check.due("no lines", x.specialOf(7), 0);
    }

    private static void linesNotAbove() {
        Check.sentence("Promise 4", "or not above that of the entry before");
        TwinIssue x = new TwinIssue(16);
        x.linesFrom(5, 1);
        Check.due("the same", x.linesFrom(5, 2), false);
        Check.due("one less", x.linesFrom(4, 2), false);
        Check.due("0", x.linesFrom(0, 2), false);
        Check.due("one entry", x.lookAt(5), 1);
        Check.due("one more", x.linesFrom(6, 2), true);
        Check.due("a refused one is no entry before", x.linesFrom(6, 3), false);
        Check.due("nor this", x.linesFrom(5, 3), false);
        Check.due("one more", x.linesFrom(7, 3), true);
        Check.due("three entries", x.lookAt(5), 3);
        Check.due("none from 0 on", x.specialOf(7), 0);
    }

    private static void linesThatAreFull() {
        Check.sentence("Promise 4", "there are 32");
        TwinIssue x = new TwinIssue(16);
        for (int k = 0; k < 32; k++) {
            Check.due("entries", x.lookAt(5), k);
            Check.due("entry " + k, x.linesFrom(2 * k, k + 1), true);
        }
        Check.due("entries", x.lookAt(5), 32);
        Check.due("one more", x.linesFrom(64, 99), false);
        Check.due("and again", x.linesFrom(MOST, 99), false);
        Check.due("entries", x.lookAt(5), 32);
        Check.due("the first holds", x.specialOf(7), 1);
        x.runCycles(5 + 31);
        Check.due("62 RETIRED", x.specialOf(8), 62);
        Check.due("the last holds", x.specialOf(7), 32);
        x.runCycles(1);
        Check.due("64 RETIRED", x.specialOf(8), 64);
        Check.due("the refused one does not", x.specialOf(7), 32);
    }

    private static void linesBehindACycle() {
        Check.sentence("Promise 4", "or a cycle has been run, as above");
        TwinIssue x = new TwinIssue(16);
        x.runCycles(MOST);
        Check.due("behind a refused run", x.linesFrom(0, 1), true);
        x.runCycles(1);
        Check.due("behind a cycle", x.linesFrom(1, 2), false);
        Check.due("one entry", x.lookAt(5), 1);
        x.restart();
        Check.due("behind restart()", x.linesFrom(1, 3), true);
        Check.due("one entry", x.lookAt(5), 1);
        x.runCycles(1);
        Check.due("behind a cycle again", x.linesFrom(2, 4), false);
        Check.due("one entry", x.lookAt(5), 1);
    }

    private static void linesFromCountOn() {
        Check.sentence("LINES", "those of the latest entry with a count of at most n; 0 without one");
        Bench bench = new Bench();
        bench.lines(2, 5).lines(3, 6).lines(6, -1).lines(7, 0);
        int[] due = {0, 0, 5, 6, 6, 6, -1, 0, 0};
        for (int k = 0; k < due.length; k++) {
            bench.put(Code.read(1 + k, 7));
        }
        for (int k = 0; k < due.length; k++) {
            bench.special("ahead of READ " + k, 7, due[k]);
            bench.run(6);
            bench.register("READ at RETIRED " + k, 1 + k, due[k]);
        }
    }

    // ---- What is refused

    private static void refusedCalls() {
        Check.sentence("THE RECORD", "What answers false or NONE changes nothing");
        for (int cycles = 0; cycles < 40; cycles++) {
            Bench bench = mixedProgram();
            if (cycles > 0) {
                bench.run(cycles);
            }
            int[] before = Picture.of(bench.x);
            refuseAll(bench.x, cycles > 0);
            Check.due("behind " + cycles + " cycles", Picture.of(bench.x), before);
            Bench other = mixedProgram();
            if (cycles > 0) {
                other.run(cycles);
            }
            Check.due("more events", bench.x.runCycles(30), other.x.runCycles(30));
            Check.due("and on", Picture.of(bench.x), Picture.of(other.x));
        }
    }

    private static void refuseAll(TwinIssue x, boolean hasRun) {
        for (int address : new int[] {-4, 1, 258, 65533, 65536}) {
            Check.due("giveWord", x.giveWord(address, 77), false);
        }
        for (int register : new int[] {-1, 0, 32}) {
            Check.due("setRegister", x.setRegister(register, 77), false);
        }
        for (int count : new int[] {-1, 0, 4}) {
            Check.due("linesFrom", x.linesFrom(count, 77), false);
        }
        for (int n : NO_RUNS) {
            Check.due("runCycles", x.runCycles(n), -1);
        }
        for (int none : new int[] {-1, 100000}) {
            Check.due("eventOf", x.eventOf(none, 0), -1);
            Check.due("eventOf", x.eventOf(0, none), -1);
            Check.due("lookAt", x.lookAt(none), -1);
        }
        if (hasRun) {
            Check.due("giveWord", x.giveWord(40004, 77), false);
            Check.due("setRegister", x.setRegister(5, 77), false);
            Check.due("linesFrom", x.linesFrom(1000, 77), false);
        }
    }

    /** Slots, a LOAD and a STORE, slow ones, an exception and the lines, in some fifty cycles. */
    private static Bench mixedProgram() {
        Bench bench = new Bench();
        bench.lines(0, 1).lines(4, 6).register(20, 40000).register(2, 77).register(3, 5);
        bench.special(9, 21, 6).put(Code.jump(Code.CALL, 3), Code.abd(9, 4, 2, 3)).at(272);
        bench.put(Code.imm(28, 2, 20, 4), Code.abd(38, 0, 2, 3), Code.abd(18, 0, 0, 0));
        bench.put(Code.abd(34, 5, 4, 4), Code.jump(22, 2), Code.imm(26, 6, 20, 1)).halts();
        return bench.at(1536).put(Code.imm(26, 7, 20, 4), Code.abd(8, 8, 7, 7), Code.nothing()).halt();
    }

    // ---- Promise 5

    private static void restartFromAnywhere() {
        Check.sentence("Promise 5", "The STATE is as at first, no cycle has been run,"
                + " no EVENTS are in THE RECORD, there are no lines");
        for (int cycles = 0; cycles < 60; cycles++) {
            asNew("behind " + cycles, mixedProgram(), cycles);
        }
        asNew("with a full RECORD", new Bench(), 200);
        asNew("behind 2000", new Bench(), 2000);
        Bench timer = new Bench();
        timer.special(5, 1, 3 << 29 | 2).special(4, 2, 1).special(6, 3, -1).special(10, 4, 5);
        timer.special(11, 5, 6).special(1, 6, 7).special(2, 7, 8).special(3, 8, 9);
        timer.special(1024, 9, 1).special(1167, 10, 2).special(1280, 11, 3).special(1423, 12, 4);
        asNew("behind WRITEs", timer, 2 + 6 * 12);
        Bench all = new Bench();
        asNew("at the end", all, 60000);
    }

    private static void asNew(String name, Bench used, int cycles) {
        for (int left = cycles; left > 0; left -= 2000) {
            used.run(Math.min(left, 2000));
        }
        used.x.restart();
        TwinIssue fresh = new TwinIssue(16);
        Picture.copyWords(used.x, fresh);
        Check.due(name + ": at once", Picture.of(used.x), Picture.of(fresh));
        Check.due(name + ": events", used.x.runCycles(5), fresh.runCycles(5));
        Check.due(name + ": events", used.x.runCycles(8), fresh.runCycles(8));
        Check.due(name + ": then", Picture.of(used.x), Picture.of(fresh));
    }

    private static void restartOfSets() {
        Check.sentence("Promise 5", "The STATE is as at first");
        for (int sets = 16; sets <= 128; sets *= 2) {
            Bench bench = new Bench(sets);
            for (int row = 0; row < 4; row++) {
                bench.special(1024 + 128 * row, 1 + 2 * row, -1);
                bench.special(1024 + 128 * row + sets - 1, 2 + 2 * row, -1);
            }
            bench.run(60);
            for (int row = 0; row < 4; row++) {
                bench.special("the first set", 1024 + 128 * row, -1);
                bench.special("the last set", 1024 + 128 * row + sets - 1, -1);
            }
            bench.x.restart();
            for (int special = 1024; special < 1536; special++) {
                if (special % 128 < 2 || special % 128 > sets - 3 && special % 128 < sets) {
                    bench.special("behind restart()", special, 0);
                }
            }
            Check.due("S", bench.x.lookAt(7), sets);
        }
    }

    private static void restartLeavesMemory() {
        Check.sentence("Promise 5", "MEMORY stays");
        Bench bench = new Bench();
        bench.register(1, 65532).register(2, -2).at(0).put(9).at(32764).put(8).at(256);
        bench.put(Code.imm(28, 2, 1, 0), Code.imm(29, 2, 1, -32764)).halts().run(20);
        bench.x.restart();
        bench.x.restart();
        Check.due("what was stored", bench.x.wordAt(65532), -2);
        Check.due("what was stored", bench.x.wordAt(32768), 0xFE000000);
        Check.due("what was given", bench.x.wordAt(0), 9);
        Check.due("what was given", bench.x.wordAt(32764), 8);
        Check.due("S stays", bench.x.lookAt(7), 16);
    }

    private static void restartTakesCallsAgain() {
        Check.sentence("Promise 5", "no cycle has been run");
        TwinIssue x = new TwinIssue(64);
        for (int life = 0; life < 4; life++) {
            Check.due("giveWord", x.giveWord(256, Code.imm(10, 1, 2, life)), true);
            Check.due("setRegister", x.setRegister(2, 100), true);
            Check.due("linesFrom", x.linesFrom(0, life), true);
            Check.due("events", x.runCycles(6), 2);
            Check.due("cycles", x.lookAt(0), 6);
            Check.due("it counts from 0 on", x.registerOf(1), 100 + life);
            Check.due("C", x.eventOf(0, 0), 6);
            Check.due("F", x.eventOf(0, 6), 1);
            Check.due("lines", x.specialOf(7), life);
            x.restart();
        }
        Check.due("S stays", x.lookAt(7), 64);
    }

    private static void restartEndsLines() {
        Check.sentence("Promise 5", "there are no lines");
        TwinIssue x = new TwinIssue(16);
        for (int k = 0; k < 32; k++) {
            x.linesFrom(k, -1);
        }
        x.restart();
        Check.due("no entries", x.lookAt(5), 0);
        Check.due("no lines", x.specialOf(7), 0);
        for (int k = 0; k < 32; k++) {
            Check.due("32 again", x.linesFrom(k, 1), true);
        }
        Check.due("not more", x.linesFrom(32, 1), false);
        x.runCycles(50);
        x.restart();
        Check.due("no lines", x.specialOf(7), 0);
        x.runCycles(50);
        Check.due("no lines later", x.specialOf(7), 0);
    }

    // ---- Promise 6

    private static void runsThatAreNone() {
        Check.sentence("Promise 6", "NONE if n is none");
        TwinIssue x = new TwinIssue(16);
        for (int n : NO_RUNS) {
            Check.due("runCycles(" + n + ")", x.runCycles(n), -1);
        }
        Check.due("no cycles", x.lookAt(0), 0);
        x.runCycles(7);
        for (int n : NO_RUNS) {
            Check.due("runCycles(" + n + ") later", x.runCycles(n), -1);
        }
        Check.due("no more cycles", x.lookAt(0), 7);
        Check.due("no more events", x.lookAt(1), 4);
    }

    private static void leastAndMostRun() {
        Check.sentence("Promise 6", "n more cycles, 1 .. 2000");
        TwinIssue x = new TwinIssue(16);
        Check.due("1", x.runCycles(1), 0);
        Check.due("cycles", x.lookAt(0), 1);
        Check.due("2000", x.runCycles(2000), 3992);
        Check.due("cycles", x.lookAt(0), 2001);
        Check.due("1999", x.runCycles(1999), 3998);
        Check.due("cycles", x.lookAt(0), 4000);
        Check.due("events", x.lookAt(1), 7990);
    }

    private static void sixtyThousand() {
        Check.sentence("Promise 6", "or there would be more than 60000 cycles in all");
        TwinIssue x = new TwinIssue(16);
        x.giveWord(256, Code.jump(Code.JUMP, 0));
        x.giveWord(260, Code.nothing());
        for (int life = 0; life < 2; life++) {
            for (int k = 0; k < 29; k++) {
                Check.due("2000 more", x.runCycles(2000) >= 0, true);
            }
            Check.due("1998 more", x.runCycles(1998) >= 0, true);
            int[] before = Picture.of(x);
            Check.due("3 are too many", x.runCycles(3), -1);
            Check.due("2000 are too many", x.runCycles(2000), -1);
            Check.due("nothing is changed", Picture.of(x), before);
            Check.due("1 is not", x.runCycles(1) >= 0, true);
            Check.due("2 are too many", x.runCycles(2), -1);
            Check.due("1 is not", x.runCycles(1) >= 0, true);
            Check.due("60000", x.lookAt(0), 60000);
            int events = x.lookAt(1);
            Check.due("1 is too many", x.runCycles(1), -1);
            Check.due("60000 still", x.lookAt(0), 60000);
            Check.due("no more events", x.lookAt(1), events);
            x.restart();
        }
        TwinIssue whole = new TwinIssue(16);
        for (int k = 0; k < 30; k++) {
            Check.due("2000 more", whole.runCycles(2000) >= 0, true);
        }
        Check.due("60000", whole.lookAt(0), 60000);
        Check.due("2000 are too many", whole.runCycles(2000), -1);
    }

    private static void eventsOfTheLastCycle() {
        Check.sentence("Promise 6", "how many EVENTS there were in these");
        // The first two have C = 6, a STORE behind them 7.
        Bench bench = new Bench();
        bench.register(1, 40000).register(2, 5);
        bench.put(Code.imm(10, 3, 0, 3), Code.imm(10, 4, 0, 4), Code.imm(28, 2, 1, 0)).halts();
        Check.due("none in 5", bench.x.runCycles(5), 0);
        bench.register("not yet", 3, 0);
        Check.due("PC", bench.x.placeOf(0), 256);
        Check.due("two in the 6th", bench.x.runCycles(1), 2);
        bench.register("now", 3, 3);
        bench.register("now", 4, 4);
        Check.due("not stored yet", bench.x.wordAt(40000), 0);
        bench.special("RETIRED", 8, 2);
        Check.due("two in the 7th", bench.x.runCycles(1), 2);
        Check.due("stored", bench.x.wordAt(40000), 5);
        Check.due("PC in the slot", bench.x.placeOf(0), 272);
        Bench five = new Bench();
        Check.due("none in 5", five.x.runCycles(5), 0);
        Bench six = new Bench();
        Check.due("two in 6", six.x.runCycles(6), 2);
        Bench seven = new Bench();
        Check.due("four in 7", seven.x.runCycles(7), 4);
    }

    private static void noEventsYet() {
        Check.sentence("Promise 6", "are as the EVENTS so far have left them");
        // A WRITE of TIMER and of LATCH has its EVENT in the last of six cycles, not ahead of it.
        Bench bench = new Bench();
        bench.lines(0, 3).special(9, 1, 1).special(5, 2, 3 << 29 | 9).halts();
        bench.run(5).special("LATCH", 9, 0);
        Check.due("HELD", bench.x.lookAt(8), 0);
        bench.run(1).special("LATCH", 9, 1);
        Check.due("HELD", bench.x.lookAt(8), 1);
        bench.run(5).special("COUNT", 4, 0);
        bench.special("TIMER", 5, 0);
        bench.run(1).special("COUNT", 4, 1);
        bench.special("TIMER", 5, 3 << 29 | 9);
    }

    // ---- Promises 7 to 10

    private static void askedRegisters() {
        Check.sentence("Promise 7", "0 if there is none such");
        TwinIssue x = new TwinIssue(16);
        for (int register = 1; register < 32; register++) {
            x.setRegister(register, register);
        }
        for (int none : new int[] {-1, -31, -32, 32, 33, 63, 64, 256, LEAST, LEAST + 1, MOST}) {
            Check.due("registerOf(" + none + ")", x.registerOf(none), 0);
        }
        Check.due("the first", x.registerOf(0), 0);
        Check.due("the next", x.registerOf(1), 1);
        Check.due("the last", x.registerOf(31), 31);
    }

    private static void askedSpecials() {
        Check.sentence("Promise 8", "0 if there is none such");
        Bench bench = new Bench(128);
        bench.special(10, 1, -10).special(11, 2, -11).special(1024, 3, -1).special(1535, 4, -4);
        bench.special(9, 5, -9).special(3, 6, -3).run(60);
        for (int none : new int[] {-1, -2, 12, 13, 15, 16, 31, 32, 128, 512, 1023, 1536, 1537, 1663,
            1664, 2047, 2048, 65535, 65536, 65536 + 1024, LEAST, LEAST + 1024, MOST}) {
            bench.special("none such", none, 0);
        }
        bench.special("the last of these", 11, -11);
        bench.special("the first of these", 1024, -1);
        bench.special("the last of all", 1535, -4);
    }

    private static void askedSets() {
        Check.sentence("THE STATE", "of SETS s from 0 to S - 1");
        for (int sets = 16; sets <= 128; sets *= 2) {
            for (int first = 1024; first < 1536; first += 128) {
                Bench bench = new Bench(sets);
                bench.special(first, 1, 1).special(first + sets - 1, 2, 2);
                bench.special(first + 127, 3, sets == 128 ? 2 : 3).special(first + sets, 4, 4);
                bench.put(Code.read(5, first), Code.read(6, first + sets - 1));
                bench.put(Code.read(7, first + sets)).run(60);
                bench.special("the first", first, 1);
                bench.special("the last", first + sets - 1, 2);
                boolean isNextRow = sets == 128 && first < 1408;
                bench.special("the one behind", first + sets, isNextRow ? 4 : 0);
                bench.special("set 127", first + 127, sets == 128 ? 2 : 0);
                bench.register("READ of the first", 5, 1);
                bench.register("READ of the last", 6, 2);
                bench.register("READ of the one behind", 7, isNextRow ? 4 : 0);
            }
        }
    }

    private static void askedWords() {
        Check.sentence("Promise 9", "0 if it is no multiple of 4 from 0 to 65532");
        TwinIssue x = new TwinIssue(16);
        for (int address : new int[] {0, 4, 252, 256, 260, 32764, 32768, 65528, 65532}) {
            x.giveWord(address, -1);
        }
        for (int address : NO_ADDRESSES) {
            Check.due("wordAt(" + address + ")", x.wordAt(address), 0);
        }
        Check.due("the first", x.wordAt(0), -1);
        Check.due("the last", x.wordAt(65532), -1);
        x.runCycles(100);
        Check.due("the last, later", x.wordAt(65532), -1);
        Check.due("behind it, later", x.wordAt(65536), 0);
    }

    private static void askedPlacesOutsideSlots() {
        Check.sentence("Promise 10", "if it is in a SLOT, else 0");
        Bench bench = new Bench();
        bench.put(Code.jump(Code.JUMP, 100), Code.abd(9, 1, 2, 0)).at(656).halts();
        places(bench, "at first", 256, 0, 0);
        places(bench.run(5), "ahead of it", 256, 0, 0);
        places(bench.run(1), "in the slot", 260, 256, 656);
        places(bench.run(17), "in the slot still", 260, 256, 656);
        places(bench.run(1), "behind it and a branch", 660, 656, 656);
        Bench stays = new Bench();
        stays.put(Code.jump(Code.JUMP_IF, 100), Code.imm(26, 1, 0, 1)).halts().run(6);
        places(stays, "a JUMP that does not go", 260, 256, 264);
        places(stays.run(1), "an exception in the slot", 1536, 0, 0);
        stays.x.restart();
        places(stays, "restart()", 256, 0, 0);
        Bench zero = new Bench();
        zero.put(Code.abd(24, 0, 0, 0), Code.nothing()).at(0).put(Code.nothing()).run(6);
        places(zero, "TARGET 0", 260, 256, 0);
        places(zero.run(1), "behind it", 0, 0, 0);
    }

    private static void places(Bench bench, String name, int pc, int branch, int target) {
        Check.due(name + ": PC", bench.x.placeOf(0), pc);
        Check.due(name + ": branch", bench.x.placeOf(1), branch);
        Check.due(name + ": TARGET", bench.x.placeOf(2), target);
    }

    private static void askedPlacesThatAreNone() {
        Check.sentence("Promise 10", "0 for any other which");
        Bench bench = new Bench();
        bench.put(Code.jump(Code.JUMP, 100)).run(6);
        for (int none : new int[] {-1, -2, 3, 4, 7, 256, LEAST, MOST}) {
            Check.due("placeOf(" + none + ")", bench.x.placeOf(none), 0);
        }
    }
}
