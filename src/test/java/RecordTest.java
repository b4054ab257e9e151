/** What is told of EVENTS (promises 11, 12); how many are kept is in EventEdgesTest. */
public final class RecordTest {
    private RecordTest() {
    }

    public static void main(String[] args) {
        all();
        Check.end("RecordTest");
    }

    /** An answer for each what, of a LOAD, a STORE, a COMPARE, a slot and an exception. */
    private static void all() {
        Bench bench = new Bench();
        bench.at(40000).put(77).at(256).register(1, 40000).register(2, 0x12345678);
        bench.put(Code.imm(26, 3, 1, 0), Code.imm(54, 2, 1, 6), Code.abd(18, 0, 0, 0));
        bench.put(Code.jump(21, 20), Code.imm(29, 2, 1, 9)).at(268 + 80).put(Code.trap()).halts();
        bench.run(60);
        int[][] dues = {
            {6, 0, 3, 0, -1, 0, 1, 3, 256, 77, 0},
            {7, 0, -1, 0, 40006, 0, 1, 4, 260, 0, 0x5678},
            {7, 0, -1, 1, -1, 0, 2, 4, 264, 0, 0},
            {8, 0, 31, 0, -1, 0, 2, 5, 268, 276, 0},
            {9, 0, -1, 0, 40009, 1, 3, 6, 272, 0, 0x78},
            {13, 14, -1, 0, -1, 0, 4, 10, 348, 0, 0},
        };
        for (int event = 0; event < dues.length; event++) {
            for (int what = 0; what < 8; what++) {
                Check.due("eventOf(" + event + ", " + what + ")", bench.x.eventOf(event, what),
                        dues[event][what]);
            }
            for (int what = 0; what < 3; what++) {
                Check.due("valueOf(" + event + ", " + what + ")", bench.x.valueOf(event, what),
                        dues[event][8 + what]);
            }
            Check.due("no such what", bench.x.eventOf(event, 8), -1);
            Check.due("no such what", bench.x.eventOf(event, -1), -1);
            Check.due("no such what", bench.x.valueOf(event, 3), 0);
            Check.due("no such what", bench.x.valueOf(event, -1), 0);
        }
    }
}
