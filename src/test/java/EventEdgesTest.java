/**
 * One test of its own for each sentence of promises 11 to 13 that names an edge: THE RECORD, and what
 * is counted. No object is used for more than 512 calls.
 */
public final class EventEdgesTest {
    private static final int LEAST = Integer.MIN_VALUE;
    private static final int MOST = Integer.MAX_VALUE;

    private EventEdgesTest() {
    }

    public static void main(String[] args) {
        notKept();
        noSuchEvent();
        numbersOfEvents();
        toldExceptions();
        noSuchWhat();
        noRegister();
        noCompare();
        noPlace();
        inSlotOrNot();
        noSuchValue();
        toldPlaces();
        toldValues();
        widthOfValues();
        firstKept();
        noSuchLook();
        wayToTheFirst();
        wayBetweenTwo();
        twoEvents();
        exceptionsAreCounted();
        cyclesAreCounted();
        entriesAreCounted();
        heldIsAsked();
        Check.end("EventEdgesTest");
    }

    /** READs have their EVENTS one by one, each six cycles behind the one before. */
    private static TwinIssue reads(int words, int cycles) {
        TwinIssue x = new TwinIssue(16);
        for (int k = 0; k < words; k++) {
            x.giveWord(256 + 4 * k, Code.read(1 + k % 31, 8));
        }
        x.runCycles(Math.min(cycles, 1500));
        if (cycles > 1500) {
            x.runCycles(cycles - 1500);
        }
        return x;
    }

    private static void readIsKept(TwinIssue x, int event) {
        int[] due = {6 * event + 6, 0, 1 + event % 31, 0, -1, 0, 6 * event + 1, 6 * event + 3};
        for (int what = 0; what < 8; what++) {
            Check.due("eventOf(" + event + ", " + what + ")", x.eventOf(event, what), due[what]);
        }
        Check.due("valueOf(" + event + ", 0)", x.valueOf(event, 0), 256 + 4 * event);
        Check.due("valueOf(" + event + ", 1)", x.valueOf(event, 1), event);
        Check.due("valueOf(" + event + ", 2)", x.valueOf(event, 2), 0);
    }

    private static void isNotKept(TwinIssue x, int event) {
        for (int what = 0; what < 8; what++) {
            Check.due("eventOf(" + event + ", " + what + ")", x.eventOf(event, what), -1);
        }
        for (int what = 0; what < 3; what++) {
            Check.due("valueOf(" + event + ", " + what + ")", x.valueOf(event, what), 0);
        }
    }

    private static void notKept() {
        Check.sentence("THE RECORD", "keeps the last 256 EVENTS");
        int[] counts = {1, 2, 255, 256, 257, 258, 270};
        for (int count : counts) {
            TwinIssue x = reads(271, 6 * count + 5);
            int first = Math.max(0, count - 256);
            Check.due("events", x.lookAt(1), count);
            readIsKept(x, first);
            readIsKept(x, count - 1);
            readIsKept(x, (first + count) / 2);
            isNotKept(x, first - 1);
            isNotKept(x, count);
        }
        // 256 answers of one object and as many of another tell that each one of them is kept.
        for (int part = 0; part < 2; part++) {
            TwinIssue x = reads(260, 6 * 260);
            for (int event = 4 + 128 * part; event < 132 + 128 * part; event++) {
                Check.due("PC of " + event, x.valueOf(event, 0), 256 + 4 * event);
            }
        }
    }

    private static void noSuchEvent() {
        Check.sentence("Promise 11", "NONE if it is not kept, or there is none such");
        TwinIssue none = new TwinIssue(16);
        int[] numbers = {-1, -2, -256, LEAST, MOST, 0, 1, 255, 256};
        for (int event : numbers) {
            isNotKept(none, event);
        }
        none.runCycles(5);
        isNotKept(none, 0);
        TwinIssue two = new TwinIssue(16);
        two.runCycles(6);
        for (int event : new int[] {-1, -255, -256, LEAST, 2, 3, 256, 257, 512, MOST}) {
            isNotKept(two, event);
        }
        Check.due("the first", two.eventOf(0, 0), 6);
        Check.due("the last", two.eventOf(1, 0), 6);
        two.restart();
        isNotKept(two, 0);
        isNotKept(two, 1);
        // Numbers go on from 0 behind restart().
        two.runCycles(6);
        Check.due("the last", two.eventOf(1, 0), 6);
        isNotKept(two, 2);
    }

    private static void numbersOfEvents() {
        Check.sentence("Promise 11", "Of EVENT i, from 0 on (of all since the beginning or restart())");
        TwinIssue x = reads(300, 6 * 300);
        for (int event = 44; event < 300; event += 85) {
            readIsKept(x, event);
        }
        isNotKept(x, 0);
        isNotKept(x, 43);
        x.restart();
        isNotKept(x, 0);
        isNotKept(x, 299);
        x.runCycles(6 * 2);
        readIsKept(x, 0);
        readIsKept(x, 1);
        isNotKept(x, 2);
        isNotKept(x, 44);
        isNotKept(x, 258);
    }

    private static void toldExceptions() {
        Check.sentence("Promise 11", "1: 0 if it was RETIRED, else the exception");
        int[][] words = {{Code.nothing(), 0}, {Code.imm(28, 1, 0, 8), 2}, {Code.imm(26, 1, 0, 1), 6},
            {Code.abd(63, 0, 0, 0), 7}, {Code.abd(18, 10, 0, 0), 7}, {Code.sys(), 12}, {Code.trap(), 14}};
        for (int[] one : words) {
            first("word " + Integer.toHexString(one[0]), one[0], 1, one[1]);
        }
        int[][] bits = {{2, 5}, {4, 8}, {8, 9}, {16, 10}, {512, 11}, {0, 0}};
        for (int[] one : bits) {
            Bench bench = new Bench();
            bench.lines(0, 1).special(6, 1, 1).special(5, 2, 1 << 28).special(0, 3, 1 | one[0]);
            int word = one[0] == 512 ? Code.abd(9, 4, 0, 0) : Code.imm(26, 4, 0, 0);
            bench.put(word).halts().run(60);
            Check.due("with SR " + one[0], bench.x.eventOf(3, 1), one[1]);
        }
        // Pages that match, but have no bit of PLACE: 3 and 4.
        for (int row = 0; row < 2; row++) {
            Bench bench = new Bench();
            bench.special(1024 + 256 * row, 1, 1).special(0, 2, row == 0 ? 17 : 9);
            bench.put(Code.imm(26, 4, 0, 0)).halts().run(60);
            Check.due("without a bit of PLACE", bench.x.eventOf(2, 1), row == 0 ? 4 : 3);
        }
    }

    private static void noSuchWhat() {
        Check.sentence("Promise 11", "or no such what");
        TwinIssue x = new TwinIssue(16);
        x.runCycles(20);
        for (int what : new int[] {-1, -8, 8, 9, 10, 11, 12, 19, 256, LEAST, MOST}) {
            Check.due("eventOf(3, " + what + ")", x.eventOf(3, what), -1);
        }
        Check.due("the last what", x.eventOf(3, 7), 4);
    }

    private static void noRegister() {
        Check.sentence("Promise 11", "the register that it wrote (NONE without one, or for 0)");
        int[] toZero = {0, 2, 8, 9, 10, 12, 14, 26, 27, 30, 34, 36, 37, 41, 42, 46, 47, 49, 50, 57};
        for (int op : toZero) {
            first("to register 0, " + op, Code.imm(op, 0, 0, 0), 2, -1);
            first("to register 31, " + op, Code.imm(op, 31, 0, 0), 2, 31);
            first("to register 1, " + op, Code.imm(op, 1, 0, 0), 2, 1);
        }
        int[] without = {20, 22, 23, 24, 31, 33, 38, 39, 40, 55};
        for (int op : without) {
            first("without one, " + op, Code.imm(op, 1, 0, 16), 2, -1);
        }
        first("COMPARE", Code.imm(18, 1, 0, 0), 2, -1);
        first("STORE", Code.imm(28, 1, 20, 0), 2, -1);
        first("CALL", Code.jump(21, 4), 2, 31);
        first("CALL B", Code.abd(25, 0, 0, 0), 2, 31);
        int[] exceptions = {Code.imm(26, 1, 0, 1), Code.sys(), Code.trap(), Code.abd(63, 1, 1, 1)};
        for (int word : exceptions) {
            first("an EXCEPTION", word, 2, -1);
        }
    }

    /** What is told of the first EVENT of a program of one word. */
    private static void first(String name, int word, int what, int due) {
        Bench bench = new Bench();
        bench.register(20, 40000).put(word).run(30);
        Check.due(name + ": eventOf(0, " + what + ")", bench.x.eventOf(0, what), due);
    }

    private static void noCompare() {
        Check.sentence("Promise 11", "1 if it was a COMPARE (and RETIRED), else 0");
        first("the least", Code.abd(18, 0, 0, 0), 3, 1);
        first("the greatest", Code.abd(18, 9, 0, 0), 3, 1);
        first("with I", Code.imm(19, 9, 0, 5), 3, 1);
        first("with I", Code.imm(19, 0, 0, 5), 3, 1);
        first("none such", Code.abd(18, 10, 0, 0), 3, 0);
        first("none such", Code.imm(19, 31, 0, 5), 3, 0);
        first("the one ahead", Code.imm(17, 1, 0, 5), 3, 0);
        first("the one behind", Code.jump(20, 5), 3, 0);
        Bench timer = new Bench();
        timer.special(5, 1, 1 << 28).special(0, 2, 3).put(Code.abd(18, 0, 0, 0)).halts().run(40);
        timer.event("a COMPARE with exception 5", 2, 264, 5);
        Check.due("it is not RETIRED", timer.x.eventOf(2, 3), 0);
    }

    private static void noPlace() {
        Check.sentence("Promise 11", "the place in MEMORY that it wrote (NONE without one)");
        for (int op : new int[] {28, 29, 54}) {
            first("STORE " + op, Code.imm(op, 1, 20, 8), 4, 40008);
            first("STORE to CODE " + op, Code.imm(op, 1, 0, 8), 4, -1);
            first("STORE too far " + op, Code.imm(op, 1, 0, -4), 4, -1);
        }
        first("STORE off its place", Code.imm(28, 1, 20, 2), 4, -1);
        first("STORE off its place", Code.imm(54, 1, 20, 3), 4, -1);
        first("a byte", Code.imm(29, 1, 20, 3), 4, 40003);
        first("a half", Code.imm(54, 1, 20, 2), 4, 40002);
        first("LOAD", Code.imm(26, 1, 20, 8), 4, -1);
        first("ADD", Code.abd(0, 1, 20, 20), 4, -1);
        Bench timer = new Bench();
        timer.register(20, 40000).special(5, 1, 1 << 28).special(0, 2, 3);
        timer.put(Code.imm(28, 1, 20, 0)).halts().run(40);
        timer.event("a STORE with exception 5", 2, 264, 5);
        Check.due("it wrote nothing", timer.x.eventOf(2, 4), -1);
        Check.due("it wrote nothing", timer.x.valueOf(2, 2), 0);
        Check.due("it wrote nothing", timer.x.wordAt(40000), 0);
    }

    private static void inSlotOrNot() {
        Check.sentence("Promise 11", "1 if it was in a SLOT, else 0");
        Bench bench = new Bench();
        bench.put(Code.jump(22, 9), Code.nothing(), Code.jump(20, 2), Code.imm(26, 1, 0, 1)).halts();
        bench.run(30);
        int[] due = {0, 1, 0, 1, 0, 1, 0};
        for (int event = 0; event < due.length; event++) {
            Check.due("event " + event, bench.x.eventOf(event, 5), due[event]);
        }
        bench.event("an exception there", 3, 268, 6);
    }

    private static void noSuchValue() {
        Check.sentence("Promise 12", "0 if there is none such");
        Bench bench = new Bench();
        bench.register(20, 40000).register(1, 77).at(40004).put(-9).at(256);
        bench.put(Code.imm(28, 1, 20, 0), Code.imm(26, 2, 20, 4), Code.imm(10, 0, 1, 1));
        bench.put(Code.imm(26, 3, 20, 1)).halts().run(40);
        int[][] due = {{256, 0, 77}, {260, -9, 0}, {264, 0, 0}, {268, 0, 0}};
        for (int event = 0; event < due.length; event++) {
            for (int what = 0; what < 3; what++) {
                Check.due("valueOf(" + event + ", " + what + ")", bench.x.valueOf(event, what),
                        due[event][what]);
            }
            for (int what : new int[] {-1, 3, 4, -8, 11, LEAST, MOST}) {
                Check.due("valueOf(" + event + ", " + what + ")", bench.x.valueOf(event, what), 0);
            }
        }
        bench.event("the last is an exception", 3, 268, 6);
        for (int event : new int[] {-1, 1000, LEAST, MOST}) {
            Check.due("valueOf(" + event + ", 0)", bench.x.valueOf(event, 0), 0);
        }
        Bench timer = new Bench();
        timer.special(5, 1, 1 << 28).special(0, 2, 3).put(Code.imm(10, 3, 0, 5)).halts().run(40);
        timer.event("an ADD with exception 5", 2, 264, 5);
        Check.due("it wrote nothing", timer.x.valueOf(2, 1), 0);
        Check.due("it wrote nothing", timer.x.eventOf(2, 2), -1);
    }

    private static void toldPlaces() {
        Check.sentence("Promise 12", "what 0: its PC");
        int[] places = {0, 4, 32764, 32768, 65532, 65536, -4, LEAST, MOST, 1, 2, 3, -1};
        for (int place : places) {
            Bench bench = new Bench();
            bench.register(1, place).put(Code.abd(24, 0, 0, 1), Code.nothing()).run(20);
            Check.due("PC of event 0", bench.x.valueOf(0, 0), 256);
            Check.due("PC of event 1", bench.x.valueOf(1, 0), 260);
            Check.due("PC of event 2", bench.x.valueOf(2, 0), place);
        }
    }

    private static void toldValues() {
        Check.sentence("Promise 12", "1: what it wrote to a register");
        for (int value : new int[] {0, 1, -1, LEAST, MOST, 1023}) {
            for (int register : new int[] {1, 20, 31}) {
                Bench bench = new Bench();
                bench.register(2, value).put(Code.abd(3, register, 2, 0), Code.imm(10, register, 0, 5));
                bench.run(6);
                Check.due("what it wrote", bench.x.valueOf(0, 1), value);
                Check.due("what the next one wrote", bench.x.valueOf(1, 1), 5);
                bench.register("what is left", register, 5);
            }
        }
    }

    private static void widthOfValues() {
        Check.sentence("Promise 12", "to MEMORY (a byte 0 .. 255, a half 0 .. 65535)");
        int[][] cases = {
            {29, -1, 255}, {29, 0, 0}, {29, 256, 0}, {29, 0x1FF, 255}, {29, 128, 128}, {29, -128, 128},
            {54, -1, 65535}, {54, 0, 0}, {54, 65536, 0}, {54, 0x18000, 0x8000}, {54, -32768, 0x8000},
            {28, -1, -1}, {28, 0, 0}, {28, LEAST, LEAST}, {28, MOST, MOST},
        };
        for (int[] one : cases) {
            Bench bench = new Bench();
            bench.register(20, 40000).register(1, one[1]).put(Code.imm(one[0], 1, 20, 0)).run(6);
            Check.due(one[0] + " of " + one[1], bench.x.valueOf(0, 2), one[2]);
            Check.due("its place", bench.x.eventOf(0, 4), 40000);
        }
    }

    private static void firstKept() {
        Check.sentence("Promise 13", "the number of the first EVENT that is kept (NONE without one)");
        TwinIssue x = new TwinIssue(16);
        Check.due("at first", x.lookAt(4), -1);
        x.runCycles(5);
        Check.due("without an EVENT", x.lookAt(4), -1);
        x.runCycles(1);
        Check.due("with two", x.lookAt(4), 0);
        x.runCycles(127);
        Check.due("256 events", x.lookAt(1), 256);
        Check.due("with 256", x.lookAt(4), 0);
        x.runCycles(1);
        Check.due("with 258", x.lookAt(4), 2);
        x.runCycles(2000);
        Check.due("with 4258", x.lookAt(4), 4002);
        x.restart();
        Check.due("behind restart()", x.lookAt(4), -1);
        Check.due("255 READs", reads(260, 6 * 255).lookAt(4), 0);
        Check.due("256 READs", reads(260, 6 * 256).lookAt(4), 0);
        Check.due("257 READs", reads(260, 6 * 257).lookAt(4), 1);
    }

    private static void noSuchLook() {
        Check.sentence("Promise 13", "NONE for any other which");
        TwinIssue x = new TwinIssue(16);
        x.runCycles(20);
        for (int which : new int[] {-1, -9, 9, 10, 16, 256, LEAST, MOST}) {
            Check.due("lookAt(" + which + ")", x.lookAt(which), -1);
        }
        Check.due("the first", x.lookAt(0), 20);
        Check.due("the last", x.lookAt(8), 0);
    }

    private static void wayToTheFirst() {
        Check.sentence("Promise 13", "or from the beginning (cycle 0) to the first one, in cycles"
                + " (0 without one)");
        TwinIssue x = new TwinIssue(16);
        Check.due("at first", x.lookAt(6), 0);
        x.runCycles(5);
        Check.due("without an EVENT", x.lookAt(6), 0);
        x.runCycles(1);
        Check.due("to the first", x.lookAt(6), 6);
        x.runCycles(1000);
        Check.due("none is longer", x.lookAt(6), 6);
        x.restart();
        Check.due("behind restart()", x.lookAt(6), 0);
        Bench slow = new Bench();
        slow.put(Code.abd(9, 1, 2, 3), Code.abd(9, 1, 2, 3)).halts();
        slow.run(22);
        Check.due("without an EVENT in 22", slow.x.lookAt(6), 0);
        slow.run(1);
        Check.due("to a first one", slow.x.lookAt(6), 23);
        slow.run(17);
        Check.due("the way that is not ended counts not", slow.x.lookAt(6), 23);
        slow.run(60);
        Check.due("a shorter one", slow.x.lookAt(6), 23);
    }

    private static void wayBetweenTwo() {
        Check.sentence("Promise 13", "the longest way between two EVENTS that followed one another");
        // C is 6 and 7; then, behind the READ at 10, the DIVIDE at 10 + 23.
        Bench later = new Bench();
        later.put(Code.nothing(), Code.read(1, 0), Code.abd(9, 1, 2, 3), Code.nothing()).halts();
        later.run(32);
        Check.due("to the READ", later.x.lookAt(6), 6);
        later.run(1);
        Check.due("between two", later.x.lookAt(6), 23);
    }

    private static void twoEvents() {
        Check.sentence("Promise 13", "cycles with two EVENTS");
        TwinIssue x = new TwinIssue(16);
        x.runCycles(5);
        Check.due("none", x.lookAt(3), 0);
        x.runCycles(1);
        Check.due("one", x.lookAt(3), 1);
        x.runCycles(10);
        Check.due("eleven", x.lookAt(3), 11);
        Check.due("none of READs", reads(100, 600).lookAt(3), 0);
        x.restart();
        Check.due("behind restart()", x.lookAt(3), 0);
    }

    private static void exceptionsAreCounted() {
        Check.sentence("Promise 13", "1: EVENTS, 2: EXCEPTIONS");
        Bench bench = new Bench();
        bench.put(Code.sys()).at(3072).put(Code.trap()).at(3584).halt().run(5);
        Check.due("no event", bench.x.lookAt(1), 0);
        Check.due("none", bench.x.lookAt(2), 0);
        bench.run(1);
        Check.due("one event", bench.x.lookAt(1), 1);
        Check.due("one", bench.x.lookAt(2), 1);
        bench.run(6);
        Check.due("two events", bench.x.lookAt(1), 2);
        Check.due("two", bench.x.lookAt(2), 2);
        bench.special("RETIRED", 8, 0);
        bench.run(100);
        Check.due("two", bench.x.lookAt(2), 2);
        bench.x.restart();
        Check.due("behind restart()", bench.x.lookAt(2), 0);
    }

    private static void cyclesAreCounted() {
        Check.sentence("Promise 13", "which 0: cycles");
        TwinIssue x = new TwinIssue(16);
        Check.due("at first", x.lookAt(0), 0);
        int all = 0;
        for (int n : new int[] {1, 5, 2000, 1, 1999}) {
            x.runCycles(n);
            all += n;
            Check.due("behind " + n + " more", x.lookAt(0), all);
        }
        x.runCycles(0);
        x.runCycles(2001);
        Check.due("what is refused counts not", x.lookAt(0), all);
        x.restart();
        Check.due("behind restart()", x.lookAt(0), 0);
    }

    private static void entriesAreCounted() {
        Check.sentence("Promise 13", "5: entries of lines");
        TwinIssue x = new TwinIssue(16);
        Check.due("at first", x.lookAt(5), 0);
        x.linesFrom(-1, 1);
        Check.due("what is refused counts not", x.lookAt(5), 0);
        for (int k = 0; k < 34; k++) {
            x.linesFrom(3 * k, 0);
            x.linesFrom(3 * k, 1);
            Check.due("behind entry " + k, x.lookAt(5), Math.min(k + 1, 32));
        }
        x.runCycles(100);
        Check.due("later", x.lookAt(5), 32);
        x.restart();
        Check.due("behind restart()", x.lookAt(5), 0);
    }

    private static void heldIsAsked() {
        Check.sentence("Promise 13", "7: S, 8: HELD");
        Bench bench = new Bench(64);
        bench.lines(1, -1).lines(2, 0).special(9, 1, LEAST + 1).halts().run(40);
        Check.due("HELD", bench.x.lookAt(8), LEAST + 1);
        Check.due("S", bench.x.lookAt(7), 64);
        bench.x.restart();
        Check.due("HELD", bench.x.lookAt(8), 0);
        Check.due("S", bench.x.lookAt(7), 64);
    }
}
