import java.math.BigInteger;
import java.util.ArrayList;
import java.util.List;

/**
 * The document's machine in its most literal form, to compare with: it does an instruction at once,
 * and looks for the times of each by trying one cycle after the other against the document's rules.
 * It knows nothing of cycles that are run; see {@link Paced} for that.
 */
final class OneByOne {
    private static final BigInteger TWO_64 = BigInteger.ONE.shiftLeft(64);
    private static final long WORD = 1L << 32;

    /** An EVENT with all that is asked of it, and what its rules of time need. */
    static final class Event {
        int pc;
        int word;
        boolean readable;
        boolean inSlot;
        boolean went;
        int exception;
        int register = -1;
        int value;
        int place = -1;
        int stored;
        boolean beginsGroup;
        long f;
        long t;
        long c;

        boolean retired() {
            return exception == 0;
        }

        int op() {
            return readable ? word >>> 26 : -1;
        }

        int d() {
            return word >>> 21 & 31;
        }

        int j() {
            int low = word & 0x3FFFFFF;
            return low >= 1 << 25 ? low - (1 << 26) : low;
        }

        boolean none() {
            return readable && (op() > 57 || (op() == 18 || op() == 19) && d() > 9);
        }

        boolean kind(int... ops) {
            if (!readable || none()) {
                return false;
            }
            for (int op : ops) {
                if (op == op()) {
                    return true;
                }
            }
            return false;
        }

        boolean single() {
            return none() || kind(30, 31, 32, 33, 56);
        }

        boolean branch() {
            return kind(20, 21, 22, 23, 24, 25);
        }

        boolean load() {
            return kind(26, 27, 51, 52, 53);
        }

        boolean access() {
            return load() || kind(28, 29, 54);
        }

        boolean multiply() {
            return kind(8, 36, 38, 39, 40, 57);
        }

        boolean divide() {
            return kind(9, 37);
        }

        boolean foreseenToGo() {
            return kind(20, 21) || kind(22, 23) && j() < 0;
        }

        boolean compare() {
            return kind(18, 19);
        }

        boolean writesCarry() {
            return kind(0, 10, 34, 35, 1, 36, 37);
        }

        /** The register that it writes or would write; 0 without one. */
        int target() {
            if (kind(21, 25)) {
                return 31;
            }
            boolean writes = kind(0, 1, 2, 3, 4, 5, 6, 7, 8, 9, 10, 11, 12, 13, 14, 15, 16, 17)
                    || load() || kind(30, 34, 35, 36, 37, 41, 42, 43, 44, 45, 46, 47, 48, 49, 50)
                    || kind(57);
            return writes ? d() : 0;
        }

        boolean reads(int register) {
            if (register == 0) {
                return false;
            }
            boolean a = kind(0, 1, 2, 3, 4, 5, 6, 7, 8, 9, 10, 11, 12, 13, 15, 16, 17, 18, 19)
                    || access() || kind(31, 34, 35, 36, 37, 38, 39, 40, 42, 43, 44, 45, 46, 47, 48)
                    || kind(49, 50, 57);
            boolean b = kind(0, 1, 2, 3, 4, 5, 6, 7, 8, 9, 18, 24, 25, 34, 36, 37, 38, 40, 46, 49);
            return a && (word >>> 16 & 31) == register || b && (word >>> 11 & 31) == register
                    || kind(28, 29, 54) && d() == register;
        }

        boolean readsFlag() {
            return kind(22, 23, 46);
        }

        boolean readsCarry() {
            return kind(34, 35);
        }

        int delay() {
            return load() ? 2 : multiply() ? 3 : divide() ? 18 : 1;
        }
    }

    private final class Trouble extends RuntimeException {
        private static final long serialVersionUID = 1L;
        final int number;
        final boolean map;
        final int address;

        Trouble(int number, boolean map, int address) {
            this.number = number;
            this.map = map;
            this.address = address;
        }
    }

    final int sets;
    final byte[] memory = new byte[65536];
    final long[] registers = new long[32];
    final long[] specials = new long[2048];
    final List<int[]> lines = new ArrayList<>();
    final List<Event> events = new ArrayList<>();
    long held;
    int pc = 256;
    boolean inSlot;
    int branchAt;
    int target;

    OneByOne(int sets) {
        this.sets = sets >= 128 ? 128 : sets >= 64 ? 64 : sets >= 32 ? 32 : 16;
        specials[0] = 1;
    }

    // ---- MEMORY and SPECIALS

    void setWord(int address, int word) {
        for (int k = 0; k < 4; k++) {
            memory[address + k] = (byte) (word >> 24 - 8 * k);
        }
    }

    long bytes(int place, int size) {
        long all = 0;
        for (int k = 0; k < size; k++) {
            all = all * 256 + (memory[place + k] & 255);
        }
        return all;
    }

    private long linesNow() {
        long now = 0;
        for (int[] entry : lines) {
            if (entry[0] <= specials[8]) {
                now = entry[1] & WORD - 1;
            }
        }
        return now;
    }

    private long status() {
        long status = 0;
        for (int bit = 0; bit < 32; bit++) {
            boolean latched = (specials[9] >> bit & 1) != 0;
            status |= ((latched ? held : linesNow()) >> bit & 1) << bit;
        }
        return status;
    }

    boolean isSpecial(int number) {
        if (number >= 0 && number <= 11) {
            return true;
        }
        for (int first : new int[] {1024, 1152, 1280, 1408}) {
            if (number >= first && number < first + sets) {
                return true;
            }
        }
        return false;
    }

    long special(int number) {
        return !isSpecial(number) ? 0 : number == 7 ? status() : specials[number];
    }

    private void writeSpecial(int number, long value) {
        if (!isSpecial(number) || number == 8) {
            return;
        }
        if (number == 7) {
            held &= ~value;
        } else if (number == 0 || number == 2) {
            specials[number] = value & 0x3FF;
        } else if (number == 4) {
            specials[number] = value & 0xFFFFFFF;
        } else if (number == 5) {
            specials[number] = value & 0x7FFFFFFF;
        } else {
            specials[number] = value;
        }
    }

    private boolean sr(int bit) {
        return (specials[0] & bit) != 0;
    }

    private void sr(int bit, boolean on) {
        specials[0] = specials[0] & ~bit | (on ? bit : 0);
    }

    // ---- MAPS

    private int codePlace(int address) {
        long v = address & WORD - 1;
        if (v % 4 != 0) {
            throw new Trouble(6, true, address);
        }
        long place = v;
        if (sr(16)) {
            int set = (int) (v / 1024 % sets);
            long match = specials[1024 + set];
            if (match % 2 == 0 || match / 1024 != v / 1024) {
                throw new Trouble(10, true, address);
            }
            if ((specials[1152 + set] & (sr(1) ? 4 : 1)) == 0) {
                throw new Trouble(4, true, address);
            }
            place = specials[1152 + set] / 1024 * 1024 + v % 1024;
        }
        if (place >= 32768) {
            throw new Trouble(2, true, address);
        }
        return (int) place;
    }

    private int dataPlace(long sum, int size, boolean store) {
        long v = sum & WORD - 1;
        int address = (int) v;
        if (v % size != 0) {
            throw new Trouble(6, true, address);
        }
        long place = v;
        if (sr(8)) {
            int set = (int) (v / 1024 % sets);
            long match = specials[1280 + set];
            if (match % 2 == 0 || match / 1024 != v / 1024) {
                throw new Trouble(9, true, address);
            }
            int bit = store ? sr(1) ? 8 : 2 : sr(1) ? 4 : 1;
            if ((specials[1408 + set] & bit) == 0) {
                throw new Trouble(3, true, address);
            }
            place = specials[1408 + set] / 1024 * 1024 + v % 1024;
        }
        if (place >= 65536 || store && place < 32768) {
            throw new Trouble(2, true, address);
        }
        return (int) place;
    }

    // ---- ONE BY ONE

    Event step() {
        Event event = new Event();
        event.pc = pc;
        event.inSlot = inSlot;
        try {
            event.word = (int) bytes(codePlace(pc), 4);
            event.readable = true;
        } catch (Trouble trouble) {
            event.readable = false;
        }
        long oldSr = specials[0];
        try {
            if (sr(2) && (specials[5] >> 28 & 1) == 1) {
                throw new Trouble(5, false, 0);
            }
            if (sr(4) && (status() & specials[6]) != 0) {
                throw new Trouble(8, false, 0);
            }
            codePlace(pc);
            int next = perform(event);
            retire(event, next);
        } catch (Trouble trouble) {
            specials[0] = oldSr;
            except(event, trouble);
        }
        addTimes(event);
        events.add(event);
        return event;
    }

    private void except(Event event, Trouble trouble) {
        event.exception = trouble.number;
        if (trouble.map) {
            specials[3] = trouble.address & WORD - 1;
        }
        specials[2] = specials[0];
        long epc = inSlot ? branchAt : trouble.number == 12 ? pc + 4 : pc;
        specials[1] = epc & WORD - 1;
        specials[0] = specials[0] & (32 + 128 + 256) | 1 | (inSlot ? 64 : 0);
        pc = 256 * trouble.number;
        inSlot = false;
    }

    private void retire(Event event, int next) {
        if (event.branch()) {
            branchAt = pc;
            target = next;
            pc += 4;
            inSlot = true;
        } else if (event.kind(33)) {
            pc = next;
            inSlot = false;
        } else if (inSlot) {
            pc = target;
            inSlot = false;
        } else {
            pc = next;
        }
        specials[8]++;
        long mode = specials[5] >> 29 & 3;
        if (mode != 0) {
            specials[4] = (specials[4] + 1) % (1L << 28);
            if (specials[4] == specials[5] % (1L << 28)) {
                specials[5] |= 1L << 28;
                if (mode == 1) {
                    specials[4] = 0;
                }
                if (mode == 2) {
                    specials[5] &= ~(3L << 29);
                }
            }
        }
        held |= linesNow() & specials[9];
    }

    /** Does it, if there is no exception, and tells where it goes. */
    private int perform(Event event) {
        int op = event.op();
        int word = event.word;
        int d = event.d();
        long a = (int) registers[word >>> 16 & 31];
        long b = (int) registers[word >>> 11 & 31];
        long ua = a & WORD - 1;
        long ub = b & WORD - 1;
        long u = word & 0xFFFF;
        long i = u >= 32768 ? u - 65536 : u;
        long ui = i & WORD - 1;
        if (event.none()) {
            throw new Trouble(7, false, 0);
        }
        if (event.kind(30, 31, 33) && !sr(1)) {
            throw new Trouble(7, false, 0);
        }
        if (inSlot && (event.branch() || op == 33)) {
            throw new Trouble(7, false, 0);
        }
        long carry = sr(128) ? 1 : 0;
        switch (op) {
            case 0: sum(a + b, ua + ub); set(event, d, a + b); break;
            case 10: sum(a + i, ua + ui); set(event, d, a + i); break;
            case 34: sum(a + b + carry, ua + ub + carry); set(event, d, a + b + carry); break;
            case 35: sum(a + i + carry, ua + ui + carry); set(event, d, a + i + carry); break;
            case 1: range(a - b); sr(128, ua < ub); set(event, d, a - b); break;
            case 2: set(event, d, a & b); break;
            case 3: set(event, d, a | b); break;
            case 4: set(event, d, a ^ b); break;
            case 5: set(event, d, ua << ub % 32); break;
            case 6: set(event, d, ua >> ub % 32); break;
            case 7: set(event, d, a >> ub % 32); break;
            case 8: range(a * b); set(event, d, a * b); break;
            case 57: range(a * i); set(event, d, a * i); break;
            case 9: range(b == 0 ? WORD : a / b); set(event, d, b == 0 ? 0 : a / b); break;
            case 11: set(event, d, a & u); break;
            case 12: set(event, d, a | u); break;
            case 13: set(event, d, a ^ u); break;
            case 14: set(event, d, u * 65536); break;
            case 15: set(event, d, ua << u % 32); break;
            case 16: set(event, d, ua >> u % 32); break;
            case 17: set(event, d, a >> u % 32); break;
            case 18: sr(32, compare(d, a, b, ua, ub)); break;
            case 19: sr(32, compare(d, a, i, ua, ui)); break;
            case 36: {
                BigInteger product = BigInteger.valueOf(ua).multiply(BigInteger.valueOf(ub));
                sr(128, product.bitLength() > 32);
                set(event, d, product.longValue());
                break;
            }
            case 37: sr(128, ub == 0); set(event, d, ub == 0 ? 0 : ua / ub); break;
            case 38: more(BigInteger.valueOf(a * b)); break;
            case 39: more(BigInteger.valueOf(a * i)); break;
            case 40: more(BigInteger.valueOf(a * b).negate()); break;
            case 41: set(event, d, specials[11]); specials[10] = 0; specials[11] = 0; break;
            case 42: set(event, d, (short) a); break;
            case 43: set(event, d, (byte) a); break;
            case 44: set(event, d, ua % 65536); break;
            case 45: set(event, d, ua % 256); break;
            case 46: set(event, d, sr(32) ? a : b); break;
            case 47: set(event, d, lowest(ua)); break;
            case 48: set(event, d, highest(ua)); break;
            case 49: set(event, d, rotated(ua, ub % 32)); break;
            case 50: set(event, d, rotated(ua, u % 32)); break;
            case 20: return go(event, true, pc + 4 * event.j());
            case 21: set(event, 31, pc + 8L); return go(event, true, pc + 4 * event.j());
            case 22: return go(event, sr(32), pc + 4 * event.j());
            case 23: return go(event, !sr(32), pc + 4 * event.j());
            case 24: return go(event, true, (int) b);
            case 25: set(event, 31, pc + 8L); return go(event, true, (int) b);
            case 26: set(event, d, bytes(dataPlace(a + i, 4, false), 4)); break;
            case 27: set(event, d, bytes(dataPlace(a + i, 1, false), 1)); break;
            case 51: set(event, d, (byte) bytes(dataPlace(a + i, 1, false), 1)); break;
            case 52: set(event, d, bytes(dataPlace(a + i, 2, false), 2)); break;
            case 53: set(event, d, (short) bytes(dataPlace(a + i, 2, false), 2)); break;
            case 28: store(event, dataPlace(a + i, 4, true), 4, registers[d]); break;
            case 29: store(event, dataPlace(a + i, 1, true), 1, registers[d]); break;
            case 54: store(event, dataPlace(a + i, 2, true), 2, registers[d]); break;
            case 30: set(event, d, special((int) u)); break;
            case 31: writeSpecial((int) u, ua); break;
            case 32: throw new Trouble(12, false, 0);
            case 33: specials[0] = specials[2]; return (int) specials[1];
            case 55: break;
            case 56: throw new Trouble(14, false, 0);
            default: throw new IllegalStateException("op " + op);
        }
        return pc + 4;
    }

    private void set(Event event, int register, long value) {
        if (register != 0) {
            registers[register] = value & WORD - 1;
            event.register = register;
            event.value = (int) value;
        }
    }

    private void store(Event event, int place, int size, long value) {
        for (int k = 0; k < size; k++) {
            memory[place + k] = (byte) (value >> 8 * (size - 1 - k));
        }
        event.place = place;
        event.stored = (int) bytes(place, size);
    }

    private int go(Event event, boolean goes, int there) {
        event.went = goes;
        return goes ? there : pc + 8;
    }

    private void range(long exact) {
        boolean over = exact != (int) exact;
        if (over && sr(512)) {
            throw new Trouble(11, false, 0);
        }
        sr(256, over);
    }

    private void sum(long exact, long unsigned) {
        range(exact);
        sr(128, unsigned >= WORD);
    }

    private void more(BigInteger what) {
        BigInteger sum = BigInteger.valueOf(specials[10]).shiftLeft(32)
                .add(BigInteger.valueOf(specials[11])).add(what).mod(TWO_64);
        specials[10] = sum.shiftRight(32).longValue();
        specials[11] = sum.longValue() & WORD - 1;
    }

    private static boolean compare(int number, long a, long b, long ua, long ub) {
        switch (number) {
            case 0: return a == b;
            case 1: return a != b;
            case 2: return ua > ub;
            case 3: return ua >= ub;
            case 4: return ua < ub;
            case 5: return ua <= ub;
            case 6: return a > b;
            case 7: return a >= b;
            case 8: return a < b;
            default: return a <= b;
        }
    }

    private static long lowest(long word) {
        for (int k = 0; k < 32; k++) {
            if ((word >> k & 1) == 1) {
                return k + 1;
            }
        }
        return 0;
    }

    private static long highest(long word) {
        for (int k = 31; k >= 0; k--) {
            if ((word >> k & 1) == 1) {
                return k + 1;
            }
        }
        return 0;
    }

    private static long rotated(long word, long by) {
        long out = word;
        for (long k = 0; k < by; k++) {
            out = out / 2 + out % 2 * (1L << 31);
        }
        return out;
    }

    // ---- TIMES

    private Event before(int howMany) {
        int index = events.size() - howMany;
        return index < 0 ? null : events.get(index);
    }

    private boolean redirected() {
        Event last = before(1);
        return last != null && (!last.retired() || last.single() || branchRedirects());
    }

    private boolean branchRedirects() {
        Event slot = before(1);
        if (slot == null || !slot.inSlot) {
            return false;
        }
        Event branch = before(2);
        return branch.kind(24, 25) || branch.went != branch.foreseenToGo();
    }

    private void addTimes(Event event) {
        Event last = before(1);
        boolean joins = last != null && last.beginsGroup && event.pc == last.pc + 4
                && !redirected() && !(last.inSlot && before(2).foreseenToGo());
        event.beginsGroup = !joins;
        event.f = joins ? last.f : 1;
        while (!joins && !fetchHolds(event)) {
            event.f++;
        }
        event.t = event.f + 2;
        while (!issueHolds(event)) {
            event.t++;
        }
        event.c = event.t + (event.multiply() ? 5 : event.divide() ? 20 : 3);
        while (!eventHolds(event)) {
            event.c++;
        }
    }

    private boolean fetchHolds(Event event) {
        Event last = before(1);
        Event fifth = before(5);
        if (last != null && event.f <= last.f || fifth != null && event.f <= fifth.t) {
            return false;
        }
        if (branchRedirects() && event.f < before(2).t + 2) {
            return false;
        }
        return last == null || last.retired() && !last.single() || event.f > last.c;
    }

    private boolean issueHolds(Event event) {
        Event last = before(1);
        if (last == null) {
            return true;
        }
        if (event.t < last.t) {
            return false;
        }
        if (event.t == last.t) {
            Event ahead = before(2);
            if (!pair(last, event) || ahead != null && ahead.t >= last.t) {
                return false;
            }
        }
        if (event.single() && event.t <= last.c) {
            return false;
        }
        return waitsEnough(event);
    }

    private boolean waitsEnough(Event event) {
        for (int register = 1; register < 32; register++) {
            if (event.reads(register)) {
                for (int k = events.size() - 1; k >= 0; k--) {
                    Event writer = events.get(k);
                    if (writer.retired() && writer.register == register) {
                        if (event.t < writer.t + writer.delay()) {
                            return false;
                        }
                        break;
                    }
                }
            }
        }
        boolean flag = event.readsFlag();
        boolean carry = event.readsCarry();
        boolean divide = event.divide();
        boolean sum = event.kind(41);
        for (int k = events.size() - 1; k >= 0 && (flag || carry || divide || sum); k--) {
            Event e = events.get(k);
            if (flag && e.retired() && e.compare()) {
                flag = false;
                if (event.t < e.t + e.delay()) {
                    return false;
                }
            }
            if (carry && e.retired() && e.writesCarry()) {
                carry = false;
                if (event.t < e.t + e.delay()) {
                    return false;
                }
            }
            if (divide && e.divide()) {
                divide = false;
                if (event.t < e.t + 18) {
                    return false;
                }
            }
            if (sum && e.retired() && e.kind(38, 39, 40)) {
                sum = false;
                if (event.t < e.t + 3) {
                    return false;
                }
            }
        }
        return true;
    }

    private static boolean pair(Event first, Event second) {
        if (first.single() || second.single() || first.branch()) {
            return false;
        }
        if (first.access() && second.access()) {
            return false;
        }
        if ((first.multiply() || first.divide()) && (second.multiply() || second.divide())) {
            return false;
        }
        if (second.reads(first.target()) || second.readsFlag() && first.compare()
                || second.readsCarry() && first.writesCarry()) {
            return false;
        }
        return !(second.kind(41) && first.kind(38, 39, 40));
    }

    private boolean eventHolds(Event event) {
        Event last = before(1);
        Event ahead = before(2);
        if (last != null && (event.c < last.c || !event.retired() && event.c == last.c)) {
            return false;
        }
        return ahead == null || event.c > ahead.c;
    }
}
