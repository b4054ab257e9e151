/** Promises 5, 6 and 10 with ordinary programs; their edges, and other calls, are in CallEdgesTest. */
public final class CallsTest {
    private CallsTest() {
    }

    public static void main(String[] args) {
        restart();
        restartKeepsMemory();
        restartAtAnyTime();
        cyclesInParts();
        placesInSlot();
        Check.end("CallsTest");
    }

    private static void restart() {
        Bench bench = new Bench(32);
        bench.lines(0, 3);
        bench.special(9, 1, 3).special(6, 2, 8).special(5, 3, 0x60000002).special(4, 4, 77);
        bench.special(10, 5, 9).special(11, 6, 8).special(1024, 7, 5).special(1535 - 96, 8, 6);
        bench.special(3, 9, 4).special(1, 10, 44).special(2, 11, 45);
        bench.put(Code.abd(18, 0, 0, 0), Code.jump(Code.CALL, 4), Code.sys());
        bench.at(3072).put(Code.imm(28, 1, 0, 32768 - 65536));
        bench.run(100);
        Check.due("held", bench.x.lookAt(8), 3);
        TwinIssue fresh = new TwinIssue(32);
        Picture.copyWords(bench.x, fresh);
        bench.x.restart();
        Check.due("restart", Picture.of(bench.x), Picture.of(fresh));
        bench.x.restart();
        Check.due("restart twice", Picture.of(bench.x), Picture.of(fresh));
        // A run behind restart() has the times of a first run.
        bench.at(256).put(Code.imm(Code.ADD_I, 1, 0, 4), Code.nothing());
        Check.due("events", bench.x.runCycles(6), 2);
        bench.times("restart", 0, 1, 3, 6, 1, 3, 6);
        Check.due("way", bench.x.lookAt(6), 6);
    }

    private static void restartKeepsMemory() {
        Bench bench = new Bench();
        bench.register(1, 32768).register(2, 1234567);
        bench.put(Code.imm(Code.STORE, 2, 1, 8)).run(20);
        Check.due("stored", bench.x.wordAt(32776), 1234567);
        bench.x.restart();
        Check.due("kept", bench.x.wordAt(32776), 1234567);
        Check.due("code kept", bench.x.wordAt(256), Code.imm(Code.STORE, 2, 1, 8));
        // Register 1 is 0 now: the STORE has no place in CODE.
        bench.run(6);
        bench.event("restart", 0, 256, 2);
        Check.due("EEA", bench.x.specialOf(3), 8);
    }

    /** Behind restart() nothing tells that object from a new one with the same MEMORY. */
    private static void restartAtAnyTime() {
        for (int cycles = 1; cycles < 80; cycles++) {
            Bench used = new Bench();
            used.lines(0, 1).lines(9, 3);
            layLongProgram(used);
            used.run(cycles);
            used.x.restart();
            Bench fresh = new Bench();
            layLongProgram(fresh);
            for (int address = 32768; address < 32800; address += 4) {
                fresh.x.giveWord(address, used.x.wordAt(address));
            }
            int first = cycles % 2 == 0 ? Code.nothing() : Code.abd(9, 1, 2, 3);
            used.register(20, 32768).at(256).put(first);
            fresh.at(256).put(first);
            used.run(70);
            fresh.run(70);
            String name = "restart behind " + cycles;
            Check.due(name, Picture.of(used.x), Picture.of(fresh.x));
            for (int event = 0; event < 20; event++) {
                for (int what = 0; what < 8; what++) {
                    Check.due(name + " eventOf", used.x.eventOf(event, what),
                            fresh.x.eventOf(event, what));
                }
            }
        }
    }

    private static void layLongProgram(Bench bench) {
        bench.register(20, 32768).at(256);
        bench.put(Code.abd(9, 1, 2, 3), Code.abd(38, 0, 2, 3), Code.imm(28, 20, 20, 4));
        bench.put(Code.abd(18, 0, 0, 0), Code.abd(34, 4, 1, 1), Code.jump(22, 3));
        bench.put(Code.abd(8, 5, 1, 1), Code.abd(37, 6, 2, 3), Code.abd(41, 7, 0, 0));
        bench.put(Code.read(8, 8), Code.abd(25, 0, 0, 0), Code.abd(36, 9, 2, 3)).halts();
        bench.at(0).put(Code.imm(26, 10, 20, 0), Code.imm(26, 11, 0, 1));
    }

    /** It is the same whether cycles are run at once or one by one. */
    private static void cyclesInParts() {
        TwinIssue x = new TwinIssue(16);
        int[] due = {0, 0, 0, 0, 0, 2, 2, 2};
        for (int k = 0; k < due.length; k++) {
            Check.due("cycle " + (k + 1), x.runCycles(1), due[k]);
            Check.due("PC in cycle " + (k + 1), x.placeOf(0), 256 + 4 * x.lookAt(1));
            Check.due("RETIRED in cycle " + (k + 1), x.specialOf(8), x.lookAt(1));
        }
        Check.due("double cycles", x.lookAt(3), 3);
        Check.due("longest way", x.lookAt(6), 6);
        Bench parts = new Bench();
        Bench whole = new Bench();
        layLongProgram(parts);
        layLongProgram(whole);
        int events = 0;
        for (int k = 0; k < 100; k++) {
            events += parts.x.runCycles(1);
        }
        Check.due("events in parts", events, whole.x.runCycles(100));
        Check.due("in parts", Picture.of(parts.x), Picture.of(whole.x));
    }

    private static void placesInSlot() {
        Bench bench = new Bench();
        bench.put(Code.jump(Code.JUMP, 100), Code.imm(Code.DIVIDE, 1, 2, 0));
        bench.run(6);
        Check.due("PC in the slot", bench.x.placeOf(0), 260);
        Check.due("its branch", bench.x.placeOf(1), 256);
        Check.due("TARGET", bench.x.placeOf(2), 656);
        bench.run(18);
        Check.due("PC behind the slot", bench.x.placeOf(0) >= 656, true);
        Check.due("no branch", bench.x.placeOf(1), 0);
        Check.due("no TARGET", bench.x.placeOf(2), 0);
        Bench stays = new Bench();
        stays.put(Code.jump(Code.JUMP_IF, 100), Code.imm(Code.DIVIDE, 1, 2, 0)).run(6);
        Check.due("a JUMP that does not go", stays.x.placeOf(2), 264);
        Check.due("its branch", stays.x.placeOf(1), 256);
    }
}
