/** Slots, exceptions, maps, the timer and the lines, done one by one (promises 4, 6 to 12). */
public final class FlowTest {
    private static final int SUPERVISOR = 1;
    private static final int TIMER_ON = 2;
    private static final int LINES_ON = 4;
    private static final int DATA_MAPPED = 8;
    private static final int CODE_MAPPED = 16;
    private static final int FLAG = 32;
    private static final int IN_SLOT = 64;
    private static final int CARRY = 128;
    private static final int OVERFLOW = 256;

    private FlowTest() {
    }

    public static void main(String[] args) {
        branches();
        calls();
        conditions();
        illegalInSlot();
        exceptionsInSlot();
        systemCalls();
        whatStays();
        returns();
        users();
        codeAddresses();
        codeMaps();
        dataAddresses();
        firstPlace();
        otherAddresses();
        dataMaps();
        farPages();
        timerModes();
        timerEdges();
        timerException();
        lines();
        latches();
        orderOfExceptions();
        Check.end("FlowTest");
    }

    private static void path(String name, Bench bench, int... pcs) {
        for (int k = 0; k < pcs.length; k++) {
            Check.due(name + ": PC of event " + k, bench.x.valueOf(k, 0), pcs[k]);
        }
    }

    private static void slots(String name, Bench bench, int... slots) {
        for (int k = 0; k < slots.length; k++) {
            Check.due(name + ": slot of event " + k, bench.x.eventOf(k, 5), slots[k]);
        }
    }

    private static void branches() {
        Bench bench = new Bench();
        bench.put(Code.jump(Code.JUMP, 4), Code.imm(Code.ADD_I, 1, 1, 1)).at(272);
        bench.put(Code.jump(Code.JUMP, -3), Code.imm(Code.ADD_I, 1, 1, 2));
        bench.run(30);
        path("jump", bench, 256, 260, 272, 276, 260, 264);
        slots("jump", bench, 0, 1, 0, 1, 0, 0);
        bench.register("jump", 31, 0);
        Check.due("jump: no register", bench.x.eventOf(0, 2), -1);
        // J has 26 bits with their sign: the farthest way back goes out of CODE.
        Bench far = new Bench();
        far.put(Code.jump(Code.JUMP, 0x2000000), Code.nothing()).run(40);
        path("far", far, 256, 260, 256 - (1 << 27), 512);
        far.event("far", 2, 256 - (1 << 27), 2);
        far.special("far", 3, 256 - (1 << 27));
        far.special("far", 1, 256 - (1 << 27));
    }

    private static void calls() {
        Bench bench = new Bench();
        bench.put(Code.jump(Code.CALL, 8), Code.imm(Code.ADD_I, 1, 31, 0), Code.imm(10, 3, 0, 3));
        bench.halt().at(288).put(Code.abd(Code.JUMP_TO, 0, 0, 31), Code.imm(Code.ADD_I, 2, 0, 2));
        bench.run(60);
        path("call", bench, 256, 260, 288, 292, 264, 268);
        bench.register("the slot sees register 31", 1, 264);
        Check.due("call: register", bench.x.eventOf(0, 2), 31);
        Check.due("call: value", bench.x.valueOf(0, 1), 264);
        Check.due("jump to B: no register", bench.x.eventOf(2, 2), -1);
        // The slot may write what the branch has read, and CALL B reads B ahead of its write.
        Bench swap = new Bench();
        swap.register(31, 512).register(5, 600);
        swap.put(Code.abd(Code.CALL_TO, 0, 0, 31), Code.imm(Code.ADD_I, 31, 0, 7)).run(40);
        path("call B", swap, 256, 260, 512, 516);
        Check.due("call B: value", swap.x.valueOf(0, 1), 264);
        swap.register("call B: the slot is later", 31, 7);
    }

    private static void conditions() {
        for (int op = 22; op <= 23; op++) {
            for (int flag = 0; flag <= FLAG; flag += FLAG) {
                boolean goes = (op == 22) == (flag != 0);
                Bench bench = new Bench();
                bench.special(0, 1, 1 | flag);
                bench.put(Code.jump(op, 10), Code.abd(18, op == 22 ? 1 : 0, 0, 0)).halts();
                bench.at(300).halt().run(60);
                path("condition " + op + " " + flag, bench, 256, 260, 264, goes ? 300 : 268);
                Check.due("no register", bench.x.eventOf(1, 2), -1);
            }
        }
    }

    private static void illegalInSlot() {
        int[] words = {
            Code.jump(20, 5), Code.jump(21, 5), Code.jump(22, 5), Code.jump(23, 5),
            Code.abd(24, 0, 0, 1), Code.abd(25, 0, 0, 1), Code.back(),
        };
        for (int word : words) {
            Bench bench = new Bench();
            bench.put(Code.nothing(), Code.jump(Code.JUMP, 9), word).halts().run(40);
            String name = "in a slot " + Integer.toHexString(word);
            bench.event(name, 2, 264, 7);
            path(name, bench, 256, 260, 264, 1792);
            bench.special(name, 1, 260);
            bench.special(name, 0, SUPERVISOR | IN_SLOT);
            bench.special(name, 2, SUPERVISOR);
            bench.register(name, 31, 0);
            slots(name, bench, 0, 0, 1, 0);
        }
        Bench fine = new Bench();
        fine.register(1, 6).put(Code.jump(Code.JUMP, 9), Code.write(6, 1)).at(292);
        fine.put(Code.jump(Code.JUMP, 9), Code.read(2, 6)).at(328).halt().run(60);
        fine.register("WRITE and READ in slots", 2, 6);
    }

    private static void exceptionsInSlot() {
        // In a SLOT EPC is the branch, for SYS too; and the branch is done again behind RETURN.
        Bench bench = new Bench();
        bench.put(Code.nothing(), Code.jump(Code.CALL, 9), Code.sys());
        bench.at(3072).put(Code.read(1, 1), Code.read(2, 0), Code.read(3, 2), Code.back());
        bench.run(60);
        path("SYS in a slot", bench, 256, 260, 264, 3072, 3076, 3080, 3084, 260, 264);
        bench.register("EPC", 1, 260);
        bench.register("SR", 2, SUPERVISOR | IN_SLOT);
        bench.register("ESR", 3, SUPERVISOR);
        bench.register("the branch was done", 31, 268);
        Bench off = new Bench();
        off.register(1, 3).put(Code.jump(Code.JUMP, 9), Code.imm(26, 2, 1, 0)).halts().run(7);
        off.event("a bad LOAD in a slot", 1, 260, 6);
        off.special("EPC is the branch", 1, 256);
        off.special("EEA is the address", 3, 3);
        Check.due("not in a slot then", off.x.placeOf(1), 0);
    }

    private static void systemCalls() {
        Bench bench = new Bench();
        bench.put(Code.sys(), Code.trap());
        bench.at(3072).put(Code.back()).at(3584).halt();
        bench.run(60);
        path("SYS and TRAP", bench, 256, 3072, 260, 3584);
        bench.event("SYS", 0, 256, 12);
        bench.event("TRAP", 2, 260, 14);
        bench.special("EPC of TRAP", 1, 260);
        bench.special("EEA of neither", 3, 0);
        Check.due("exceptions", bench.x.lookAt(2), 2);
    }

    private static void whatStays() {
        int on = 1023 & ~TIMER_ON & ~LINES_ON & ~CODE_MAPPED & ~SUPERVISOR;
        Bench bench = new Bench();
        bench.special(0, 1, on).put(Code.sys()).halts().run(20);
        bench.special("ESR", 2, on);
        bench.special("SR", 0, FLAG | CARRY | OVERFLOW | SUPERVISOR);
        bench.special("EPC", 1, 264);
        Bench clear = new Bench();
        clear.special(0, 1, 0).put(Code.sys()).halts().run(20);
        clear.special("ESR", 2, 0);
        clear.special("SR", 0, SUPERVISOR);
    }

    private static void returns() {
        Bench bench = new Bench();
        bench.special(1, 1, 400).special(2, 2, FLAG | IN_SLOT | CARRY | OVERFLOW | SUPERVISOR);
        bench.put(Code.back()).at(400).halt().run(60);
        path("RETURN", bench, 256, 260, 264, 400, 404, 400);
        bench.special("SR", 0, FLAG | IN_SLOT | CARRY | OVERFLOW | SUPERVISOR);
        bench.special("ESR stays", 2, FLAG | IN_SLOT | CARRY | OVERFLOW | SUPERVISOR);
        slots("IN SLOT is but a bit", bench, 0, 0, 0, 0, 1, 0);
        Bench odd = new Bench();
        odd.special(1, 1, 402).special(2, 2, SUPERVISOR).put(Code.back()).halts().run(60);
        odd.event("RETURN to an odd place", 3, 402, 6);
        odd.special("EEA", 3, 402);
        odd.special("EPC", 1, 402);
    }

    private static void users() {
        int[] words = {Code.read(3, 8), Code.write(6, 1), Code.back(), Code.write(9999, 1)};
        for (int word : words) {
            Bench bench = new Bench();
            bench.special(0, 1, FLAG).put(word).halts().run(30);
            String name = "as a user " + Integer.toHexString(word);
            bench.event(name, 1, 260, 7);
            bench.special(name, 2, FLAG);
            bench.special(name, 0, FLAG | SUPERVISOR);
            bench.special(name, 6, 0);
            bench.register(name, 3, 0);
        }
        Bench fine = new Bench();
        fine.special(0, 1, 0).put(Code.imm(10, 2, 0, 4), Code.sys()).halts().run(30);
        fine.register("users add", 2, 4);
        fine.event("users call", 2, 264, 12);
    }

    private static void codeAddresses() {
        int[][] cases = {
            {32768, 2}, {32764, 0}, {-4, 2}, {65536, 2}, {1 << 31, 2}, {258, 6}, {-1, 6}, {32769, 6},
        };
        for (int[] one : cases) {
            Bench bench = new Bench();
            bench.register(1, one[0]).put(Code.abd(24, 0, 0, 1), Code.nothing()).halts().run(20);
            String name = "code at " + one[0];
            bench.event(name, 2, one[0], one[1]);
            bench.special(name, 3, one[1] == 0 ? 32768 : one[0]);
        }
        Bench first = new Bench();
        first.at(0).put(Code.imm(10, 2, 0, 5)).at(256).put(Code.abd(24, 0, 0, 0), Code.nothing());
        first.halts().run(20);
        first.event("code at 0", 2, 0, 0);
        first.register("code at 0", 2, 5);
        // Behind the last word of CODE.
        Bench end = new Bench();
        end.register(1, 32764).put(Code.abd(24, 0, 0, 1), Code.nothing()).halts().run(30);
        end.event("behind CODE", 3, 32768, 2);
        end.special("behind CODE", 1, 32768);
    }

    /** A machine that maps the code of one page; it comes to the address by RETURN. */
    private static Bench mappedCode(int match, int place, int sr, int address) {
        Bench bench = new Bench();
        int set = (address >>> 10) % 16;
        bench.special(1024 + set, 1, match).special(1152 + set, 2, place);
        bench.special(1, 3, address).special(2, 4, sr | CODE_MAPPED).put(Code.back()).halts();
        bench.at(8192 + 16).put(Code.imm(10, 9, 0, 77));
        return bench.run(50);
    }

    private static void codeMaps() {
        int page = 5 * 1024;
        int address = page + 16;
        int[][] cases = {
            {page + 1, 8192 + 1, 0, 0}, {page + 1, 8192 + 4, SUPERVISOR, 0},
            {page + 1, 8192 + 4, 0, 4}, {page + 1, 8192 + 1, SUPERVISOR, 4},
            {page + 1, 8192 + 10, 0, 4}, {page + 1, 8192 + 10, SUPERVISOR, 4},
            {page, 8192 + 15, 0, 10}, {page + 1024 * 16 + 1, 8192 + 15, 0, 10},
            {page + 1 + 1022, 8192 + 1, 0, 0}, {page + 1, 8192 + 1022, SUPERVISOR, 0},
            {page + 1, 8192 + 1022, 0, 4},
            {page + 1, 32768 + 15, 0, 2}, {page + 1, 0x80000000 + 15, 0, 2},
            {page, 32768, 0, 10}, {page + 1, 32768, 0, 4},
        };
        for (int[] one : cases) {
            Bench bench = mappedCode(one[0], one[1], one[2], address);
            String name = "code map " + one[0] + " " + one[1] + " " + one[2];
            bench.event(name, 5, address, one[3]);
            bench.register(name, 9, one[3] == 0 ? 77 : 0);
            if (one[3] != 0) {
                bench.special(name, 3, address);
                bench.special(name, 1, address);
                bench.special(name, 2, one[2] | CODE_MAPPED);
                Check.due(name + ": goes on", bench.x.valueOf(6, 0), 256 * one[3]);
            }
        }
        Bench odd = mappedCode(page, 0, SUPERVISOR, address + 2);
        odd.event("6 is first", 5, address + 2, 6);
        Bench far = mappedCode(0xFFFF1401, 8192 + 15, SUPERVISOR, 0xFFFF1410);
        far.event("a far page", 5, 0xFFFF1410, 0);
        far.register("a far page", 9, 77);
    }

    private static void dataAddresses() {
        int[][] cases = {
            {26, 65532, 0}, {26, 65536, 2}, {26, 0, 0}, {26, -4, 2}, {26, 2, 6}, {26, 1, 6},
            {26, 65538, 6}, {27, 65535, 0}, {27, 65536, 2}, {27, -1, 2}, {27, 3, 0}, {51, 65535, 0},
            {51, 65536, 2}, {52, 65534, 0}, {52, 65535, 6}, {52, 65536, 2}, {52, 2, 0}, {53, 1, 6},
            {53, 65536, 2}, {53, 65534, 0}, {28, 32768, 0}, {28, 32764, 2}, {28, 65532, 0},
            {28, 65536, 2}, {28, 32770, 6}, {28, 2, 6}, {28, -4, 2}, {29, 32767, 2}, {29, 32768, 0},
            {29, 65535, 0}, {29, 65536, 2}, {54, 32766, 2}, {54, 32769, 6}, {54, 65534, 0},
            {54, 32768, 0}, {54, 1 << 31, 2},
        };
        for (int[] one : cases) {
            Bench bench = new Bench();
            bench.register(1, one[1] - 5).register(2, -1);
            bench.put(Code.imm(one[0], 2, 1, 5)).halts().run(20);
            String name = "access " + one[0] + " at " + one[1];
            bench.event(name, 0, 256, one[2]);
            bench.special(name, 3, one[2] == 0 ? 0 : one[1]);
            if (one[2] != 0) {
                Check.due(name + ": no place", bench.x.eventOf(0, 4), -1);
                Check.due(name + ": nothing stored", bench.x.valueOf(0, 2), 0);
                Check.due(name + ": no register", bench.x.eventOf(0, 2), -1);
                bench.register(name, 2, -1);
            }
        }
    }

    private static void firstPlace() {
        Bench bench = new Bench();
        bench.at(0).put(0x01020304).at(256).put(Code.imm(26, 1, 0, 0), Code.imm(27, 2, 0, 0));
        bench.halts().run(20);
        bench.register("place 0", 1, 0x01020304);
        bench.register("place 0", 2, 1);
    }

    /** EEA is written by exceptions of maps alone, whatever came before. */
    private static void otherAddresses() {
        Bench bench = new Bench();
        bench.register(5, 77).put(Code.imm(26, 1, 0, 3)).halts();
        bench.at(1536).put(Code.write(3, 5), Code.sys()).run(60);
        bench.event("EEA", 0, 256, 6);
        bench.event("EEA", 2, 1540, 12);
        bench.special("EEA stays", 3, 77);
    }

    private static void dataMaps() {
        int page = 7 * 1024;
        int[][] cases = {
            {26, page + 1, 40960 + 1, 0, 0}, {26, page + 1, 40960 + 4, SUPERVISOR, 0},
            {26, page + 1, 40960 + 14, 0, 3}, {26, page + 1, 40960 + 11, SUPERVISOR, 3},
            {28, page + 1, 40960 + 2, 0, 0}, {28, page + 1, 40960 + 8, SUPERVISOR, 0},
            {28, page + 1, 40960 + 13, 0, 3}, {28, page + 1, 40960 + 7, SUPERVISOR, 3},
            {26, page, 40960 + 15, 0, 9}, {28, page, 0, SUPERVISOR, 9},
            {26, page + 16384 + 1, 40960 + 15, 0, 9}, {26, page + 1, 65536 + 15, 0, 2},
            {28, page + 1, 65536 + 15, 0, 2}, {28, page + 1, 8192 + 15, 0, 2},
            {26, page + 1, 8192 + 15, 0, 0}, {26, page + 1, 0xFFFFFC0F, 0, 2},
            {26, page + 1023, 40960 + 1023, 0, 0}, {28, page + 1, 65536, 0, 3},
        };
        for (int[] one : cases) {
            Bench bench = new Bench();
            bench.at(40960 + 12).put(55).at(8192 + 12).put(55).at(256);
            bench.register(6, page + 12).register(7, 66);
            bench.special(1280 + 7, 1, one[1]).special(1408 + 7, 2, one[2]);
            bench.special(0, 3, one[3] | DATA_MAPPED);
            bench.put(Code.imm(one[0], 7, 6, 0)).halts().run(30);
            String name = "data map " + one[0] + " " + one[1] + " " + one[2] + " " + one[3];
            boolean done = one[4] == 0;
            bench.event(name, 3, 268, one[4]);
            bench.special(name, 3, done ? 0 : page + 12);
            bench.register(name, 7, done && one[0] == 26 ? 55 : 66);
            boolean stored = done && one[0] == 28;
            Check.due(name + ": word", bench.x.wordAt(40960 + 12), stored ? 66 : 55);
            Check.due(name + ": place", bench.x.eventOf(3, 4), stored ? 40960 + 12 : -1);
        }
        Bench odd = new Bench();
        odd.register(6, page + 2).special(0, 3, DATA_MAPPED).put(Code.imm(26, 7, 6, 0)).halts();
        odd.run(20);
        odd.event("6 is first of all", 1, 260, 6);
        Bench byteStore = new Bench();
        byteStore.register(6, page + 3).register(7, 0x1234);
        byteStore.special(1287, 1, page + 1).special(1415, 2, 40960 + 2).special(0, 3, DATA_MAPPED);
        byteStore.put(Code.imm(29, 7, 6, 0)).halts().run(30);
        Check.due("a byte through a map", byteStore.x.wordAt(40960), 0x34);
        Check.due("its place", byteStore.x.eventOf(3, 4), 40963);
        Check.due("what was stored", byteStore.x.valueOf(3, 2), 0x34);
    }

    /** The SET of a page is the page modulo S, for each S. */
    private static void farPages() {
        for (int sets = 16; sets <= 128; sets *= 2) {
            int page = 3 * sets + sets - 1;
            Bench bench = new Bench(sets);
            bench.at(40960).put(1234).at(256).register(6, page * 1024);
            bench.special(1280 + sets - 1, 1, page * 1024 + 1);
            bench.special(1408 + sets - 1, 2, 40960 + 15);
            bench.special(0, 3, DATA_MAPPED).put(Code.imm(26, 7, 6, 0)).halts().run(30);
            bench.register("page " + page + " of " + sets, 7, 1234);
        }
    }

    /** READs behind the WRITE of TIMER, since they are RETIRED one at a time. */
    private static Bench timer(int timer, int count) {
        Bench bench = new Bench();
        bench.special(4, 2, count).special(5, 1, timer);
        for (int k = 0; k < 12; k++) {
            bench.put(Code.read(9, 0));
        }
        return bench.halts();
    }

    private static void runToRetired(Bench bench, int retired) {
        for (int k = 0; k < 100 && bench.x.specialOf(8) < retired; k++) {
            bench.run(1);
        }
        bench.special("run to", 8, retired);
    }

    private static void timerModes() {
        // WRITE of TIMER counts itself: COUNT is 1 more at once.
        for (int mode = 0; mode < 4; mode++) {
            Bench bench = timer(mode << 29 | 4, 0);
            bench.run(12);
            bench.special("mode " + mode + " at first", 4, mode == 0 ? 0 : 1);
            bench.special("mode " + mode + " at first", 5, mode << 29 | 4);
            runToRetired(bench, 4);
            bench.special("mode " + mode + " ahead", 4, mode == 0 ? 0 : 3);
            bench.special("mode " + mode + " ahead", 5, mode << 29 | 4);
            runToRetired(bench, 5);
            int left = mode == 2 ? 0 : mode;
            int pending = mode == 0 ? 0 : 1 << 28;
            bench.special("mode " + mode + " then", 4, mode == 0 || mode == 1 ? 0 : 4);
            bench.special("mode " + mode + " then", 5, left << 29 | pending | 4);
            runToRetired(bench, 11);
            int count = mode == 1 ? 2 : mode == 2 ? 4 : mode == 3 ? 10 : 0;
            bench.special("mode " + mode + " behind", 4, count);
            bench.special("mode " + mode + " behind", 5, left << 29 | pending | 4);
        }
    }

    private static void timerEdges() {
        Bench over = timer(3 << 29, 0x0FFFFFFF);
        over.run(12);
        over.special("0 behind 2^28 - 1", 4, 0);
        over.special("which is PERIOD", 5, 3 << 29 | 1 << 28);
        Bench past = timer(1 << 29 | 4, 5);
        past.run(12);
        past.special("COUNT above PERIOD goes on", 4, 6);
        past.special("and is not pending", 5, 1 << 29 | 4);
        Bench full = timer(0x7FFFFFFF, 0x0FFFFFFE);
        full.run(12);
        full.special("the greatest PERIOD", 4, 0x0FFFFFFF);
        full.special("the greatest PERIOD", 5, 0x7FFFFFFF);
        Bench off = timer(1 << 28 | 3, 0);
        off.run(40);
        off.special("PENDING can be written", 5, 1 << 28 | 3);
        off.special("and MODE 0 counts nothing", 4, 0);
        // An exception is not RETIRED and counts nothing.
        Bench sys = new Bench();
        sys.special(5, 1, 3 << 29 | 9).put(Code.sys()).halts().run(12);
        sys.special("an exception does not count", 4, 1);
        sys.special("an exception is not RETIRED", 8, 1);
        Check.due("but an event", sys.x.lookAt(1), 2);
    }

    private static void timerException() {
        Bench bench = new Bench();
        bench.register(5, 9).special(5, 1, 1 << 29 | 3).special(0, 2, SUPERVISOR | TIMER_ON);
        bench.put(Code.imm(10, 3, 0, 1), Code.imm(10, 4, 0, 1), Code.imm(10, 5, 0, 1));
        bench.at(1280).put(Code.read(6, 1), Code.write(5, 0), Code.back()).run(60);
        path("timer", bench, 256, 260, 264, 268, 1280, 1284, 1288, 268, 272);
        bench.event("timer", 3, 268, 5);
        bench.register("EPC", 6, 268);
        bench.register("done then", 4, 1);
        bench.special("ESR", 2, SUPERVISOR | TIMER_ON);
        bench.special("EEA", 3, 0);
        // Without TIMER ON it is but pending.
        Bench off = new Bench();
        off.special(5, 1, 1 << 28).put(Code.imm(10, 3, 0, 1)).halts().run(20);
        off.register("no exception", 3, 1);
        Check.due("no exception", off.x.lookAt(2), 0);
        Bench slot = new Bench();
        slot.special(5, 1, 1 << 29 | 3).special(0, 2, SUPERVISOR | TIMER_ON);
        slot.put(Code.jump(Code.JUMP, 8), Code.imm(10, 5, 0, 1)).at(1280).halt().run(30);
        path("timer in a slot", slot, 256, 260, 264, 268, 1280);
        slot.event("timer in a slot", 3, 268, 5);
        slot.special("EPC is the branch", 1, 264);
        slot.special("SR", 0, SUPERVISOR | IN_SLOT);
    }

    private static void lines() {
        Bench bench = new Bench();
        bench.lines(3, 6).lines(5, 1).special(6, 1, 4).special(0, 2, SUPERVISOR | LINES_ON);
        bench.put(Code.nothing(), Code.nothing());
        bench.at(2048).put(Code.read(3, 7), Code.read(4, 7), Code.read(5, 7), Code.back()).run(60);
        path("lines", bench, 256, 260, 264, 268, 2048, 2052, 2056, 2060, 268, 272);
        bench.event("lines", 3, 268, 8);
        bench.register("STATUS at 3", 3, 6);
        bench.register("STATUS at 4", 4, 6);
        bench.register("STATUS at 5", 5, 1);
        Check.due("one exception", bench.x.lookAt(2), 1);
        bench.special("EEA", 3, 0);
        Check.due("HELD without LATCH", bench.x.lookAt(8), 0);
        Bench masked = new Bench();
        masked.lines(0, -1).special(0, 2, SUPERVISOR | LINES_ON).halts().run(30);
        Check.due("MASK is 0", masked.x.lookAt(2), 0);
        Bench off = new Bench();
        off.lines(0, -1).special(6, 2, -1).halts().run(30);
        Check.due("LINES ON is 0", off.x.lookAt(2), 0);
        Bench at = new Bench();
        at.lines(0, 9).special(6, 1, 8).special(0, 2, LINES_ON).put(Code.nothing()).halts().run(30);
        at.event("lines from 0 on", 2, 264, 8);
        at.special("lines from 0 on", 2, LINES_ON);
    }

    private static void latches() {
        // Lines 1 and 2 are up at RETIRED 2 and 3 only; LATCH has bit 1 (2).
        Bench bench = new Bench();
        bench.lines(2, 6).lines(4, 8).special(9, 1, 2);
        bench.put(Code.nothing(), Code.read(3, 7), Code.read(4, 7), Code.nothing());
        bench.put(Code.read(5, 7)).special(7, 6, -1).put(Code.read(7, 7)).halts().run(80);
        bench.register("STATUS at 2", 3, 6);
        bench.register("STATUS at 3", 4, 6);
        bench.register("STATUS at 5", 5, 10);
        bench.register("STATUS behind its WRITE", 7, 8);
        Check.due("HELD is 0 again", bench.x.lookAt(8), 0);
        // HELD is kept while LATCH is not there, and a line that stays up holds again at once.
        Bench up = new Bench();
        up.lines(1, 5).special(9, 1, 1).special(7, 2, 1).put(Code.read(3, 7)).special(9, 4, 4);
        up.put(Code.read(5, 7)).special(9, 6, 0).put(Code.read(7, 7)).halts().run(80);
        up.register("it holds again", 3, 5);
        up.register("the other bit", 5, 5);
        up.register("no LATCH", 7, 5);
        Check.due("HELD stays", up.x.lookAt(8), 5);
        Bench part = new Bench();
        part.lines(1, 7).lines(2, 0).special(9, 1, 7).special(7, 2, 2).put(Code.read(3, 7));
        part.halts().run(40);
        part.register("WRITE takes its bits alone", 3, 5);
        Check.due("HELD", part.x.lookAt(8), 5);
        // Lines at the RETIRED behind the WRITE of LATCH are held at once.
        Bench once = new Bench();
        once.lines(1, 3).lines(2, 0).special(9, 1, 1).halts().run(40);
        Check.due("held at once", once.x.lookAt(8), 1);
        once.special("STATUS", 7, 1);
        Bench raised = new Bench();
        raised.lines(3, 2).lines(4, 0).special(9, 1, 2).special(6, 2, 2);
        raised.special(0, 3, SUPERVISOR | LINES_ON).halts().run(40);
        raised.event("a held line", 3, 268, 8);
        Bench late = new Bench();
        late.lines(3, 2).lines(4, 0).special(9, 1, 2).special(6, 2, 2);
        late.put(Code.nothing(), Code.nothing()).special(0, 3, SUPERVISOR | LINES_ON).halts();
        late.run(50);
        late.event("a line held since long", 5, 276, 8);
    }

    private static void orderOfExceptions() {
        // 5 is ahead of 8, 8 ahead of what the code has; EEA is of maps alone.
        Bench bench = new Bench();
        bench.lines(0, 1).special(6, 1, 1).special(5, 2, 1 << 28).special(1, 3, 70001);
        bench.special(2, 4, SUPERVISOR | TIMER_ON | LINES_ON).put(Code.back()).halts();
        bench.at(1280).put(Code.write(5, 0), Code.back()).at(2048);
        bench.put(Code.write(6, 0), Code.back()).run(100);
        path("order", bench, 256, 260, 264, 268, 272, 70001, 1280, 1284, 70001, 2048, 2052, 70001);
        bench.event("order", 5, 70001, 5);
        bench.event("order", 8, 70001, 8);
        bench.event("order", 11, 70001, 6);
        bench.special("order", 3, 70001);
        Check.due("order: exceptions", bench.x.lookAt(2), 3);
    }
}
