import java.lang.management.ManagementFactory;

/** What is made: little by the constructor, pages of MEMORY by stores, and nothing by other calls. */
public final class RoomTest {
    private static final com.sun.management.ThreadMXBean THREADS =
            (com.sun.management.ThreadMXBean) ManagementFactory.getThreadMXBean();

    private RoomTest() {
    }

    public static void main(String[] args) {
        // Classes are loaded ahead of what is measured.
        run(new TwinIssue(128));
        long before = made();
        TwinIssue x = new TwinIssue(128);
        long constructor = made() - before;
        Check.due("the constructor makes " + constructor + " bytes", constructor < 30000, true);
        before = made();
        run(x);
        long calls = made() - before;
        Check.due("calls make " + calls + " bytes", calls < 33 * 1100 + 4000, true);
        Check.due("all pages of DATA were written", x.wordAt(65532), 7);
        Check.end("RoomTest");
    }

    private static long made() {
        return THREADS.getThreadAllocatedBytes(Thread.currentThread().getId());
    }

    /** Writes to all pages of DATA, again and again, and asks all there is. */
    private static void run(TwinIssue x) {
        x.setRegister(1, 32764);
        x.setRegister(2, 7);
        x.giveWord(256, Code.imm(Code.ADD_I, 1, 1, 4));
        x.giveWord(260, Code.imm(Code.STORE, 2, 1, 0));
        x.giveWord(264, Code.jump(Code.JUMP, -2));
        x.giveWord(268, Code.nothing());
        for (int k = 0; k < 30; k++) {
            x.runCycles(2000);
            int which = k % 12;
            x.eventOf(x.lookAt(4), which);
            x.valueOf(x.lookAt(4), which);
            x.specialOf(which);
            x.registerOf(which);
            x.placeOf(which);
            x.lookAt(which);
            x.wordAt(4 * which);
        }
    }
}
