import java.util.Random;

/**
 * Random programs, compared with the document's machine in its literal form (all promises). An object
 * is asked far more than 512 times here, which no promise covers; this program answers all alike.
 */
public final class RandomRunsTest {
    private static final int RUNS = 400;
    private static final int[] SETS = {16, 32, 64, 128};

    private RandomRunsTest() {
    }

    public static void main(String[] args) {
        int runs = args.length > 0 ? Integer.parseInt(args[0]) : RUNS;
        int[] seen = new int[16];
        int[] doubles = new int[1];
        for (int seed = 0; seed < runs && Check.wrong() == 0; seed++) {
            run(seed, seen, doubles);
        }
        if (args.length > 0) {
            for (int e = 0; e < seen.length; e++) {
                System.out.println("exception " + e + ": " + seen[e]);
            }
            System.out.println("double cycles " + doubles[0]);
        }
        // A generator that misses an exception would test less than it seems to.
        for (int e = 2; e < 15; e++) {
            if (e != 13) {
                Check.due("exception " + e + " was met", seen[e] > 0, true);
            }
        }
        Check.end("RandomRunsTest");
    }

    private static void run(int seed, int[] seen, int[] doubles) {
        int sets = SETS[seed % 4];
        TwinIssue real = new TwinIssue(sets);
        Random random = new Random(seed * 0x9E3779B97F4A7C15L);
        if (random.nextInt(4) == 0) {
            // What an earlier life leaves behind must not show.
            real.giveWord(256, Code.imm(Code.ADD_I, 5, 0, 77));
            real.linesFrom(0, 5);
            real.runCycles(1 + random.nextInt(40));
            real.restart();
        }
        Paced literal = new Paced(sets);
        new RandomProgram(seed, sets, real, literal).lay();
        String name = "seed " + seed;
        for (int part = 0; part < 12; part++) {
            // The second part is long enough for the set-up of maps.
            int most = random.nextInt(2) == 0 ? 8 : 500;
            int n = part == 1 ? 700 : 1 + random.nextInt(most);
            Check.due(name + " runCycles", real.runCycles(n), literal.runCycles(n));
            compareState(name + " at " + literal.cycles, real, literal);
            compareEvents(name, real, literal);
        }
        compareMemory(name, real, literal);
        for (OneByOne.Event event : literal.now.events) {
            seen[event.exception]++;
        }
        doubles[0] += literal.doubleCycles();
    }

    private static void compareState(String name, TwinIssue real, Paced literal) {
        OneByOne now = literal.now;
        for (int register = 0; register < 32; register++) {
            Check.due(name + " registerOf " + register, real.registerOf(register),
                    (int) now.registers[register]);
        }
        for (int special = 0; special < 1600; special++) {
            Check.due(name + " specialOf " + special, real.specialOf(special),
                    (int) now.special(special));
        }
        Check.due(name + " placeOf 0", real.placeOf(0), now.pc);
        Check.due(name + " placeOf 1", real.placeOf(1), now.inSlot ? now.branchAt : 0);
        Check.due(name + " placeOf 2", real.placeOf(2), now.inSlot ? now.target : 0);
        int events = now.events.size();
        Check.due(name + " lookAt 0", real.lookAt(0), literal.cycles);
        Check.due(name + " lookAt 1", real.lookAt(1), events);
        Check.due(name + " lookAt 2", real.lookAt(2), literal.exceptions());
        Check.due(name + " lookAt 3", real.lookAt(3), literal.doubleCycles());
        Check.due(name + " lookAt 4", real.lookAt(4),
                events == 0 ? -1 : Math.max(0, events - 256));
        Check.due(name + " lookAt 5", real.lookAt(5), now.lines.size());
        Check.due(name + " lookAt 6", real.lookAt(6), literal.longestWay());
        Check.due(name + " lookAt 7", real.lookAt(7), now.sets);
        Check.due(name + " lookAt 8", real.lookAt(8), (int) now.held);
    }

    private static void compareEvents(String name, TwinIssue real, Paced literal) {
        int events = literal.now.events.size();
        Check.due(name + " eventOf too late", real.eventOf(events, 0), -1);
        Check.due(name + " eventOf too early", real.eventOf(events - 257, 0), -1);
        for (int k = Math.max(0, events - 256); k < events; k++) {
            OneByOne.Event event = literal.now.events.get(k);
            String which = name + " event " + k + " ";
            boolean compared = event.retired() && event.compare();
            Check.due(which + "cycle", real.eventOf(k, 0), event.c);
            Check.due(which + "exception", real.eventOf(k, 1), event.exception);
            Check.due(which + "register", real.eventOf(k, 2), event.register);
            Check.due(which + "compare", real.eventOf(k, 3), compared ? 1 : 0);
            Check.due(which + "place", real.eventOf(k, 4), event.place);
            Check.due(which + "slot", real.eventOf(k, 5), event.inSlot ? 1 : 0);
            Check.due(which + "F", real.eventOf(k, 6), event.f);
            Check.due(which + "T", real.eventOf(k, 7), event.t);
            Check.due(which + "pc", real.valueOf(k, 0), event.pc);
            Check.due(which + "value", real.valueOf(k, 1), event.value);
            Check.due(which + "stored", real.valueOf(k, 2), event.stored);
        }
    }

    private static void compareMemory(String name, TwinIssue real, Paced literal) {
        for (int address = 0; address < 65536; address += 4) {
            Check.due(name + " wordAt " + address, real.wordAt(address),
                    (int) literal.now.bytes(address, 4));
        }
    }
}
