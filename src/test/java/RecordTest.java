/** THE RECORD keeps the last 256 EVENTS (promises 11, 12, 13). */
public final class RecordTest {
    private RecordTest() {
    }

    public static void main(String[] args) {
        oneByOne();
        inPairs();
        all();
        Check.end("RecordTest");
    }

    /** READs have an EVENT each six cycles. */
    private static void oneByOne() {
        TwinIssue x = new TwinIssue(16);
        for (int k = 0; k < 270; k++) {
            x.giveWord(256 + 4 * k, Code.read(1 + k % 31, 8));
        }
        x.runCycles(6 * 255);
        kept("255", x, 255, 0);
        x.runCycles(6);
        kept("256", x, 256, 0);
        x.runCycles(5);
        kept("256 still", x, 256, 0);
        x.runCycles(1);
        kept("257", x, 257, 1);
        x.runCycles(6 * 12);
        kept("269", x, 269, 13);
        for (int event = 13; event < 269; event++) {
            Check.due("cycle", x.eventOf(event, 0), 6 * event + 6);
            Check.due("exception", x.eventOf(event, 1), 0);
            Check.due("register", x.eventOf(event, 2), 1 + event % 31);
            Check.due("F", x.eventOf(event, 6), 6 * event + 1);
            Check.due("T", x.eventOf(event, 7), 6 * event + 3);
            Check.due("PC", x.valueOf(event, 0), 256 + 4 * event);
            Check.due("value", x.valueOf(event, 1), event);
        }
    }

    private static void inPairs() {
        TwinIssue x = new TwinIssue(16);
        x.runCycles(5 + 128);
        kept("256", x, 256, 0);
        x.runCycles(1);
        kept("258", x, 258, 2);
        x.restart();
        kept("none", x, 0, -1);
        x.runCycles(6);
        kept("2", x, 2, 0);
    }

    private static void kept(String name, TwinIssue x, int events, int first) {
        Check.due(name + ": events", x.lookAt(1), events);
        Check.due(name + ": first kept", x.lookAt(4), first);
        Check.due(name + ": too early", x.eventOf(first - 1, 0), -1);
        Check.due(name + ": too early", x.valueOf(first - 1, 0), 0);
        Check.due(name + ": too late", x.eventOf(events, 0), -1);
        Check.due(name + ": too late", x.valueOf(events, 0), 0);
        if (first >= 0) {
            Check.due(name + ": first", x.eventOf(first, 0) > 0, true);
            Check.due(name + ": first PC", x.valueOf(first, 0), 256 + 4 * first);
            Check.due(name + ": last PC", x.valueOf(events - 1, 0), 252 + 4 * events);
        }
    }

    /** An answer for each what, of a LOAD, a STORE, a COMPARE, a slot and an exception. */
    private static void all() {
        Bench bench = new Bench();
        bench.at(40000).put(77).at(256).register(1, 40000).register(2, 0x12345678);
        bench.put(Code.imm(26, 3, 1, 0), Code.imm(54, 2, 1, 6), Code.abd(18, 0, 0, 0));
        bench.put(Code.jump(21, 20), Code.imm(29, 2, 1, 9)).at(268 + 80).put(Code.trap()).halts();
        bench.run(60);
        int[][] dues = {
            {6, 0, 3, 0, -1, 0, 1, 3, 256, 77, 0},
            {7, 0, -1, 0, 40006, 0, 1, 4, 260, 0, 0x5678},
            {7, 0, -1, 1, -1, 0, 2, 4, 264, 0, 0},
            {8, 0, 31, 0, -1, 0, 2, 5, 268, 276, 0},
            {9, 0, -1, 0, 40009, 1, 3, 6, 272, 0, 0x78},
            {13, 14, -1, 0, -1, 0, 4, 10, 348, 0, 0},
        };
        for (int event = 0; event < dues.length; event++) {
            for (int what = 0; what < 8; what++) {
                Check.due("eventOf(" + event + ", " + what + ")", bench.x.eventOf(event, what),
                        dues[event][what]);
            }
            for (int what = 0; what < 3; what++) {
                Check.due("valueOf(" + event + ", " + what + ")", bench.x.valueOf(event, what),
                        dues[event][8 + what]);
            }
            Check.due("no such what", bench.x.eventOf(event, 8), -1);
            Check.due("no such what", bench.x.eventOf(event, -1), -1);
            Check.due("no such what", bench.x.valueOf(event, 3), 0);
            Check.due("no such what", bench.x.valueOf(event, -1), 0);
        }
    }
}
