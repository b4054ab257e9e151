/**
 * The literal machine, run by cycles: one machine runs ahead and tells the times, the other one
 * follows it, event by event, and is what can be looked at.
 */
final class Paced {
    final OneByOne ahead;
    final OneByOne now;
    int cycles;
    private OneByOne.Event next;

    Paced(int sets) {
        ahead = new OneByOne(sets);
        now = new OneByOne(sets);
    }

    void giveWord(int address, int word) {
        ahead.setWord(address, word);
        now.setWord(address, word);
    }

    void setRegister(int register, int value) {
        ahead.registers[register] = value & 0xFFFFFFFFL;
        now.registers[register] = value & 0xFFFFFFFFL;
    }

    void linesFrom(int count, int lines) {
        ahead.lines.add(new int[] {count, lines});
        now.lines.add(new int[] {count, lines});
    }

    int runCycles(int n) {
        int before = now.events.size();
        cycles += n;
        if (next == null) {
            next = ahead.step();
        }
        while (next.c <= cycles) {
            now.step();
            next = ahead.step();
        }
        return now.events.size() - before;
    }

    int exceptions() {
        int all = 0;
        for (OneByOne.Event event : now.events) {
            all += event.retired() ? 0 : 1;
        }
        return all;
    }

    int doubleCycles() {
        int all = 0;
        for (int k = 1; k < now.events.size(); k++) {
            all += now.events.get(k).c == now.events.get(k - 1).c ? 1 : 0;
        }
        return all;
    }

    long longestWay() {
        long longest = 0;
        long last = 0;
        for (OneByOne.Event event : now.events) {
            longest = Math.max(longest, event.c - last);
            last = event.c;
        }
        return longest;
    }
}
