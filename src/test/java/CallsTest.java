/** Promises 1 to 10 and 13 as calls: what they take, what they refuse, what they leave alone. */
public final class CallsTest {
    private static final int[] ODD_NUMBERS = {-1, Integer.MIN_VALUE, Integer.MAX_VALUE, 1 << 20};

    private CallsTest() {
    }

    public static void main(String[] args) {
        newObject();
        sets();
        giveWord();
        setRegister();
        linesFrom();
        restart();
        restartKeepsMemory();
        restartAtAnyTime();
        refusedRuns();
        sixtyThousand();
        cyclesInParts();
        strangeNumbers();
        placesInSlot();
        Check.end("CallsTest");
    }

    private static void newObject() {
        asAtFirst("new", new TwinIssue(16), 16);
        asAtFirst("new", new TwinIssue(128), 128);
    }

    private static void asAtFirst(String name, TwinIssue x, int sets) {
        for (int register = 0; register < 32; register++) {
            Check.due(name + " registerOf", x.registerOf(register), 0);
        }
        for (int special = 0; special < 1700; special++) {
            Check.due(name + " specialOf " + special, x.specialOf(special), special == 0 ? 1 : 0);
        }
        Check.due(name + " placeOf 0", x.placeOf(0), 256);
        Check.due(name + " placeOf 1", x.placeOf(1), 0);
        Check.due(name + " placeOf 2", x.placeOf(2), 0);
        int[] looks = {0, 0, 0, 0, -1, 0, 0, sets, 0, -1};
        for (int which = 0; which < looks.length; which++) {
            Check.due(name + " lookAt " + which, x.lookAt(which), looks[which]);
        }
        for (int what = 0; what < 9; what++) {
            Check.due(name + " eventOf", x.eventOf(0, what), -1);
            Check.due(name + " valueOf", x.valueOf(0, what), 0);
        }
    }

    private static void sets() {
        int[][] cases = {
            {Integer.MIN_VALUE, 16}, {-1, 16}, {0, 16}, {15, 16}, {16, 16}, {17, 16}, {31, 16},
            {32, 32}, {33, 32}, {63, 32}, {64, 64}, {65, 64}, {127, 64}, {128, 128}, {129, 128},
            {Integer.MAX_VALUE, 128},
        };
        for (int[] one : cases) {
            TwinIssue x = new TwinIssue(one[0]);
            Check.due("sets " + one[0], x.lookAt(7), one[1]);
            for (int address = 0; address < 65536; address += 4096) {
                Check.due("memory is 0", x.wordAt(address), 0);
            }
        }
    }

    private static void giveWord() {
        TwinIssue x = new TwinIssue(16);
        int[] bad = {-4, -1, 1, 2, 3, 257, 65534, 65535, 65536, 65540, Integer.MIN_VALUE,
            Integer.MAX_VALUE, Integer.MAX_VALUE - 3};
        for (int address : bad) {
            Check.due("giveWord " + address, x.giveWord(address, 9), false);
            Check.due("wordAt " + address, x.wordAt(address), 0);
        }
        int[] good = {0, 4, 256, 1020, 1024, 32764, 32768, 65532};
        for (int address : good) {
            Check.due("giveWord " + address, x.giveWord(address, address + 7), true);
        }
        for (int address : good) {
            Check.due("wordAt " + address, x.wordAt(address), address + 7);
        }
        Check.due("wordAt beside", x.wordAt(260), 0);
        Check.due("giveWord again", x.giveWord(256, Integer.MIN_VALUE), true);
        Check.due("wordAt again", x.wordAt(256), Integer.MIN_VALUE);
        Check.due("giveWord 0", x.giveWord(256, 0), true);
        Check.due("wordAt 0", x.wordAt(256), 0);
        Check.due("wordAt off", x.wordAt(32769), 0);
        for (int address = 2048; address < 8192; address += 1024) {
            Check.due("giveWord of a small word", x.giveWord(address, address / 2048), true);
            Check.due("a small word", x.wordAt(address), address / 2048);
        }
        x.runCycles(0);
        Check.due("behind a refused run", x.giveWord(8, 1), true);
        x.runCycles(1);
        Check.due("behind a cycle", x.giveWord(8, 2), false);
        Check.due("behind a cycle it stays", x.wordAt(8), 1);
        x.restart();
        Check.due("behind restart", x.giveWord(8, 3), true);
        Check.due("behind restart it is there", x.wordAt(8), 3);
    }

    private static void setRegister() {
        TwinIssue x = new TwinIssue(16);
        int[] bad = {0, -1, 32, 33, Integer.MIN_VALUE, Integer.MAX_VALUE};
        for (int register : bad) {
            Check.due("setRegister " + register, x.setRegister(register, 5), false);
            Check.due("registerOf " + register, x.registerOf(register), 0);
        }
        for (int register = 1; register < 32; register++) {
            Check.due("setRegister", x.setRegister(register, -register), true);
        }
        for (int register = 0; register < 32; register++) {
            Check.due("registerOf", x.registerOf(register), -register);
        }
        x.runCycles(2001);
        Check.due("behind a refused run", x.setRegister(4, 1), true);
        x.runCycles(1);
        Check.due("behind a cycle", x.setRegister(4, 2), false);
        Check.due("behind a cycle it stays", x.registerOf(4), 1);
        x.restart();
        Check.due("behind restart it is 0", x.registerOf(4), 0);
        Check.due("behind restart", x.setRegister(4, 3), true);
    }

    private static void linesFrom() {
        TwinIssue x = new TwinIssue(16);
        Check.due("below 0", x.linesFrom(-1, 1), false);
        Check.due("least", x.linesFrom(Integer.MIN_VALUE, 1), false);
        Check.due("entries", x.lookAt(5), 0);
        Check.due("STATUS without lines", x.specialOf(7), 0);
        Check.due("0", x.linesFrom(0, 6), true);
        Check.due("STATUS at 0", x.specialOf(7), 6);
        Check.due("0 again", x.linesFrom(0, 7), false);
        Check.due("STATUS stays", x.specialOf(7), 6);
        Check.due("2", x.linesFrom(2, -1), true);
        Check.due("1 behind 2", x.linesFrom(1, 3), false);
        for (int k = 2; k < 32; k++) {
            Check.due("entries", x.lookAt(5), k);
            Check.due("entry " + k, x.linesFrom(10 * k, k), true);
        }
        Check.due("32 entries", x.lookAt(5), 32);
        Check.due("one too many", x.linesFrom(1000, 3), false);
        Check.due("still 32", x.lookAt(5), 32);
        x.runCycles(6);
        Check.due("two retired", x.specialOf(8), 2);
        Check.due("STATUS at 2", x.specialOf(7), -1);
        x.runCycles(9);
        Check.due("20 retired", x.specialOf(8), 20);
        Check.due("STATUS at 20", x.specialOf(7), 2);
        x.restart();
        Check.due("no entries", x.lookAt(5), 0);
        Check.due("no lines", x.specialOf(7), 0);
        Check.due("again", x.linesFrom(Integer.MAX_VALUE, 3), true);
        Check.due("not above", x.linesFrom(Integer.MAX_VALUE, 3), false);
        Check.due("far off", x.specialOf(7), 0);
        x.runCycles(1);
        TwinIssue y = new TwinIssue(16);
        y.runCycles(1);
        Check.due("behind a cycle", y.linesFrom(5, 1), false);
        Check.due("behind a cycle none", y.lookAt(5), 0);
    }

    private static void restart() {
        Bench bench = new Bench(32);
        bench.lines(0, 3);
        bench.special(9, 1, 3).special(6, 2, 8).special(5, 3, 0x60000002).special(4, 4, 77);
        bench.special(10, 5, 9).special(11, 6, 8).special(1024, 7, 5).special(1535 - 96, 8, 6);
        bench.special(3, 9, 4).special(1, 10, 44).special(2, 11, 45);
        bench.put(Code.abd(18, 0, 0, 0), Code.jump(Code.CALL, 4), Code.sys());
        bench.at(3072).put(Code.imm(28, 1, 0, 32768 - 65536));
        bench.run(100);
        Check.due("held", bench.x.lookAt(8), 3);
        bench.x.restart();
        asAtFirst("restart", bench.x, 32);
        bench.x.restart();
        asAtFirst("restart twice", bench.x, 32);
        // A run behind restart() has the times of a first run.
        bench.at(256).put(Code.imm(Code.ADD_I, 1, 0, 4), Code.nothing());
        Check.due("events", bench.x.runCycles(6), 2);
        bench.times("restart", 0, 1, 3, 6, 1, 3, 6);
        Check.due("way", bench.x.lookAt(6), 6);
    }

    private static void restartKeepsMemory() {
        Bench bench = new Bench();
        bench.register(1, 32768).register(2, 1234567);
        bench.put(Code.imm(Code.STORE, 2, 1, 8)).run(20);
        Check.due("stored", bench.x.wordAt(32776), 1234567);
        bench.x.restart();
        Check.due("kept", bench.x.wordAt(32776), 1234567);
        Check.due("code kept", bench.x.wordAt(256), Code.imm(Code.STORE, 2, 1, 8));
        // Register 1 is 0 now: the STORE has no place in CODE.
        bench.run(6);
        bench.event("restart", 0, 256, 2);
        Check.due("EEA", bench.x.specialOf(3), 8);
    }

    /** Behind restart() nothing tells that object from a new one with the same MEMORY. */
    private static void restartAtAnyTime() {
        for (int cycles = 1; cycles < 80; cycles++) {
            Bench used = new Bench();
            used.lines(0, 1).lines(9, 3);
            layLongProgram(used);
            used.run(cycles);
            used.x.restart();
            Bench fresh = new Bench();
            layLongProgram(fresh);
            for (int address = 32768; address < 32800; address += 4) {
                fresh.x.giveWord(address, used.x.wordAt(address));
            }
            int first = cycles % 2 == 0 ? Code.nothing() : Code.abd(9, 1, 2, 3);
            used.register(20, 32768).at(256).put(first);
            fresh.at(256).put(first);
            used.run(70);
            fresh.run(70);
            alike("restart behind " + cycles, used.x, fresh.x);
        }
    }

    private static void layLongProgram(Bench bench) {
        bench.register(20, 32768).at(256);
        bench.put(Code.abd(9, 1, 2, 3), Code.abd(38, 0, 2, 3), Code.imm(28, 20, 20, 4));
        bench.put(Code.abd(18, 0, 0, 0), Code.abd(34, 4, 1, 1), Code.jump(22, 3));
        bench.put(Code.abd(8, 5, 1, 1), Code.abd(37, 6, 2, 3), Code.abd(41, 7, 0, 0));
        bench.put(Code.read(8, 8), Code.abd(25, 0, 0, 0), Code.abd(36, 9, 2, 3)).halts();
        bench.at(0).put(Code.imm(26, 10, 20, 0), Code.imm(26, 11, 0, 1));
    }

    private static void alike(String name, TwinIssue one, TwinIssue other) {
        for (int register = 0; register < 32; register++) {
            Check.due(name + " registerOf", one.registerOf(register), other.registerOf(register));
        }
        for (int special = 0; special < 12; special++) {
            Check.due(name + " specialOf", one.specialOf(special), other.specialOf(special));
        }
        for (int which = 0; which < 9; which++) {
            Check.due(name + " lookAt", one.lookAt(which), other.lookAt(which));
            Check.due(name + " placeOf", one.placeOf(which), other.placeOf(which));
        }
        for (int event = 0; event < other.lookAt(1); event++) {
            for (int what = 0; what < 8; what++) {
                Check.due(name + " eventOf", one.eventOf(event, what), other.eventOf(event, what));
            }
            for (int what = 0; what < 3; what++) {
                Check.due(name + " valueOf", one.valueOf(event, what), other.valueOf(event, what));
            }
        }
    }

    private static void refusedRuns() {
        TwinIssue x = new TwinIssue(16);
        int[] bad = {0, -1, 2001, Integer.MIN_VALUE, Integer.MAX_VALUE};
        for (int n : bad) {
            Check.due("runCycles " + n, x.runCycles(n), -1);
            Check.due("cycles", x.lookAt(0), 0);
        }
        Check.due("2000", x.runCycles(2000), 3990);
        Check.due("cycles", x.lookAt(0), 2000);
        Check.due("events", x.lookAt(1), 3990);
        for (int n : bad) {
            Check.due("runCycles " + n, x.runCycles(n), -1);
            Check.due("cycles", x.lookAt(0), 2000);
        }
        Check.due("1", x.runCycles(1), 2);
    }

    private static void sixtyThousand() {
        TwinIssue x = new TwinIssue(16);
        x.giveWord(256, Code.jump(Code.JUMP, 0));
        int events = 0;
        for (int k = 0; k < 29; k++) {
            events += x.runCycles(2000);
        }
        events += x.runCycles(1999);
        Check.due("59999", x.lookAt(0), 59999);
        Check.due("2 more", x.runCycles(2), -1);
        Check.due("2000 more", x.runCycles(2000), -1);
        Check.due("still 59999", x.lookAt(0), 59999);
        int last = x.runCycles(1);
        Check.due("the last", last >= 0 && last <= 2, true);
        Check.due("60000", x.lookAt(0), 60000);
        Check.due("events", x.lookAt(1), events + last);
        Check.due("one more", x.runCycles(1), -1);
        Check.due("events stay", x.lookAt(1), events + last);
        Check.due("no word", x.giveWord(0, 1), false);
        x.restart();
        Check.due("from the beginning", x.runCycles(2000) > 0, true);
        Check.due("cycles", x.lookAt(0), 2000);
    }

    /** It is the same whether cycles are run at once or one by one. */
    private static void cyclesInParts() {
        TwinIssue x = new TwinIssue(16);
        int[] due = {0, 0, 0, 0, 0, 2, 2, 2};
        for (int k = 0; k < due.length; k++) {
            Check.due("cycle " + (k + 1), x.runCycles(1), due[k]);
            Check.due("PC in cycle " + (k + 1), x.placeOf(0), 256 + 4 * x.lookAt(1));
            Check.due("RETIRED in cycle " + (k + 1), x.specialOf(8), x.lookAt(1));
        }
        Check.due("double cycles", x.lookAt(3), 3);
        Check.due("longest way", x.lookAt(6), 6);
    }

    private static void strangeNumbers() {
        TwinIssue x = new TwinIssue(16);
        x.setRegister(31, 8);
        x.runCycles(20);
        for (int number : ODD_NUMBERS) {
            Check.due("registerOf", x.registerOf(number), 0);
            Check.due("specialOf", x.specialOf(number), 0);
            Check.due("wordAt", x.wordAt(number), 0);
            Check.due("placeOf", x.placeOf(number), 0);
            Check.due("eventOf", x.eventOf(number, 0), -1);
            Check.due("eventOf what", x.eventOf(0, number), -1);
            Check.due("valueOf", x.valueOf(number, 0), 0);
            Check.due("valueOf what", x.valueOf(0, number), 0);
            Check.due("lookAt", x.lookAt(number), -1);
        }
        Check.due("registerOf 31", x.registerOf(31), 8);
        Check.due("registerOf 32", x.registerOf(32), 0);
        Check.due("eventOf 8", x.eventOf(0, 8), -1);
        Check.due("valueOf 3", x.valueOf(0, 3), 0);
        Check.due("placeOf 3", x.placeOf(3), 0);
        Check.due("lookAt 9", x.lookAt(9), -1);
    }

    private static void placesInSlot() {
        Bench bench = new Bench();
        bench.put(Code.jump(Code.JUMP, 100), Code.imm(Code.DIVIDE, 1, 2, 0));
        bench.run(6);
        Check.due("PC in the slot", bench.x.placeOf(0), 260);
        Check.due("its branch", bench.x.placeOf(1), 256);
        Check.due("TARGET", bench.x.placeOf(2), 656);
        bench.run(18);
        Check.due("PC behind the slot", bench.x.placeOf(0) >= 656, true);
        Check.due("no branch", bench.x.placeOf(1), 0);
        Check.due("no TARGET", bench.x.placeOf(2), 0);
        Bench stays = new Bench();
        stays.put(Code.jump(Code.JUMP_IF, 100), Code.imm(Code.DIVIDE, 1, 2, 0)).run(6);
        Check.due("a JUMP that does not go", stays.x.placeOf(2), 264);
        Check.due("its branch", stays.x.placeOf(1), 256);
    }
}
