import java.util.Arrays;

/**
 * A machine that does up to two instructions a cycle, in order, and is seen to do them one by one.
 *
 * <p>The next instruction is worked out, and given its times, as soon as the one before it is done;
 * it changes the state only when the cycle of its event has been run. That is sound because nothing
 * from outside can change the state once a cycle has been run.
 */
public final class TwinIssue {
    public static final int NONE = -1;

    private static final int MOST_CYCLES = 60000;
    private static final int MOST_CYCLES_A_CALL = 2000;
    private static final int MEMORY_BYTES = 65536;
    private static final int CODE_BYTES = 32768;
    private static final int REGISTERS = 32;
    private static final int LINK = 31;
    private static final int FIRST_PC = 256;

    private static final int SUPERVISOR = 1;
    private static final int TIMER_ON = 2;
    private static final int LINES_ON = 4;
    private static final int DATA_MAPPED = 8;
    private static final int CODE_MAPPED = 16;
    private static final int FLAG = 32;
    private static final int IN_SLOT = 64;
    private static final int CARRY = 128;
    private static final int OVERFLOW = 256;
    private static final int RANGE_ON = 512;
    private static final int SR_BITS = 1023;

    private static final int NO_PLACE = 2;
    private static final int DATA_FORBIDDEN = 3;
    private static final int CODE_FORBIDDEN = 4;
    private static final int TIMER_DUE = 5;
    private static final int NOT_ALIGNED = 6;
    private static final int ILLEGAL = 7;
    private static final int LINE_DUE = 8;
    private static final int DATA_UNMATCHED = 9;
    private static final int CODE_UNMATCHED = 10;
    private static final int OUT_OF_RANGE = 11;
    private static final int SYSTEM_CALL = 12;
    private static final int TRAPPED = 14;

    private static final int READS_A = 1;
    private static final int READS_B = 1 << 1;
    private static final int READS_D = 1 << 2;
    private static final int READS_FLAG = 1 << 3;
    private static final int READS_CARRY = 1 << 4;
    private static final int WRITES_D = 1 << 5;
    private static final int WRITES_LINK = 1 << 6;
    private static final int COMPARE = 1 << 7;
    private static final int WRITES_CARRY = 1 << 8;
    private static final int LOAD = 1 << 9;
    private static final int STORE = 1 << 10;
    private static final int MULTIPLY = 1 << 11;
    private static final int DIVIDE = 1 << 12;
    private static final int BRANCH = 1 << 13;
    private static final int SINGLE = 1 << 14;
    private static final int ADDS_TO_SUM = 1 << 15;
    private static final int TAKES_SUM = 1 << 16;
    private static final int UNKNOWN = 1 << 17;
    private static final int PRIVILEGED = 1 << 18;

    private static final int A_TO_D = READS_A | WRITES_D;
    private static final int AB_TO_D = READS_A | READS_B | WRITES_D;
    private static final int NO_INSTRUCTION = SINGLE | UNKNOWN;

    /** What the instruction of each OP is, reads and writes. */
    private static final int[] TRAITS = {
        AB_TO_D | WRITES_CARRY, // 0
        AB_TO_D | WRITES_CARRY,
        AB_TO_D,
        AB_TO_D,
        AB_TO_D,
        AB_TO_D,
        AB_TO_D,
        AB_TO_D,
        AB_TO_D | MULTIPLY, // 8
        AB_TO_D | DIVIDE,
        A_TO_D | WRITES_CARRY,
        A_TO_D,
        A_TO_D,
        A_TO_D,
        WRITES_D,
        A_TO_D,
        A_TO_D, // 16
        A_TO_D,
        READS_A | READS_B | COMPARE,
        READS_A | COMPARE,
        BRANCH,
        BRANCH | WRITES_LINK,
        BRANCH | READS_FLAG,
        BRANCH | READS_FLAG,
        BRANCH | READS_B, // 24
        BRANCH | READS_B | WRITES_LINK,
        A_TO_D | LOAD,
        A_TO_D | LOAD,
        READS_A | READS_D | STORE,
        READS_A | READS_D | STORE,
        SINGLE | PRIVILEGED | WRITES_D,
        SINGLE | PRIVILEGED | READS_A,
        SINGLE, // 32
        SINGLE | PRIVILEGED,
        AB_TO_D | READS_CARRY | WRITES_CARRY,
        A_TO_D | READS_CARRY | WRITES_CARRY,
        AB_TO_D | MULTIPLY | WRITES_CARRY,
        AB_TO_D | DIVIDE | WRITES_CARRY,
        READS_A | READS_B | MULTIPLY | ADDS_TO_SUM,
        READS_A | MULTIPLY | ADDS_TO_SUM,
        READS_A | READS_B | MULTIPLY | ADDS_TO_SUM, // 40
        WRITES_D | TAKES_SUM,
        A_TO_D,
        A_TO_D,
        A_TO_D,
        A_TO_D,
        AB_TO_D | READS_FLAG,
        A_TO_D,
        A_TO_D, // 48
        AB_TO_D,
        A_TO_D,
        A_TO_D | LOAD,
        A_TO_D | LOAD,
        A_TO_D | LOAD,
        READS_A | READS_D | STORE,
        0,
        SINGLE, // 56
        A_TO_D | MULTIPLY,
        NO_INSTRUCTION,
        NO_INSTRUCTION,
        NO_INSTRUCTION,
        NO_INSTRUCTION,
        NO_INSTRUCTION,
        NO_INSTRUCTION,
    };

    private final Executor executor;
    private final Pipeline pipeline = new Pipeline();
    private final EventRecord events = new EventRecord();
    private int cycles;
    /** Whether the next instruction is worked out already and waits for its cycle. */
    private boolean nextIsKnown;

    public TwinIssue(int sets) {
        executor = new Executor(setsFor(sets));
    }

    public boolean giveWord(int address, int word) {
        if (cycles > 0 || !isWordAddress(address)) {
            return false;
        }
        executor.memory.put(address, word);
        return true;
    }

    public boolean setRegister(int register, int value) {
        if (cycles > 0 || register < 1 || register >= REGISTERS) {
            return false;
        }
        executor.state.registers[register] = value;
        return true;
    }

    public boolean linesFrom(int count, int lines) {
        return cycles == 0 && executor.state.specials.lines.add(count, lines);
    }

    public void restart() {
        executor.state.reset();
        pipeline.reset();
        events.reset();
        cycles = 0;
        nextIsKnown = false;
    }

    public int runCycles(int n) {
        if (n < 1 || n > MOST_CYCLES_A_CALL || cycles + n > MOST_CYCLES) {
            return NONE;
        }
        cycles += n;
        int before = events.count;
        // No cycle has more than two events, so the bound is never what ends the loop too early.
        for (int i = 0; i <= 2 * n; i++) {
            if (!nextIsKnown) {
                executor.comeTo();
                pipeline.take(executor);
                nextIsKnown = true;
            }
            if (pipeline.ended > cycles) {
                break;
            }
            events.add(executor, pipeline);
            executor.finish();
            nextIsKnown = false;
        }
        return events.count - before;
    }

    public int registerOf(int register) {
        return register < 0 || register >= REGISTERS ? 0 : executor.state.registers[register];
    }

    public int specialOf(int special) {
        return executor.state.specials.read(special);
    }

    public int wordAt(int address) {
        return isWordAddress(address) ? executor.memory.get(address) : 0;
    }

    public int placeOf(int which) {
        State state = executor.state;
        switch (which) {
            case 0:
                return state.pc;
            case 1:
                return state.inSlot ? state.branchAt : 0;
            case 2:
                return state.inSlot ? state.target : 0;
            default:
                return 0;
        }
    }

    public int eventOf(int i, int what) {
        return events.keeps(i) && what >= 0 && what <= 7 ? events.field(i, what) : NONE;
    }

    public int valueOf(int i, int what) {
        boolean known = events.keeps(i) && what >= 0 && what <= 2;
        return known ? events.field(i, EventRecord.FIRST_VALUE + what) : 0;
    }

    public int lookAt(int which) {
        switch (which) {
            case 0:
                return cycles;
            case 1:
                return events.count;
            case 2:
                return events.exceptions;
            case 3:
                return events.doubleCycles;
            case 4:
                return events.firstKept();
            case 5:
                return executor.state.specials.lines.size;
            case 6:
                return events.longestWay;
            case 7:
                return executor.state.specials.maps.sets;
            case 8:
                return executor.state.specials.held;
            default:
                return NONE;
        }
    }

    private static boolean isWordAddress(int address) {
        return address >= 0 && address < MEMORY_BYTES && (address & 3) == 0;
    }

    private static int setsFor(int sets) {
        if (sets >= 128) {
            return 128;
        }
        if (sets >= 64) {
            return 64;
        }
        return sets >= 32 ? 32 : 16;
    }

    /** MEMORY, in pages that are made when they are first written: most objects write few of them. */
    private static final class Memory {
        private static final int PAGES = 64;
        private static final int PAGE_WORDS = 256;

        private final int[][] pages = new int[PAGES][];

        int get(int place) {
            int[] page = pages[pageOf(place)];
            return page == null ? 0 : page[wordOf(place)];
        }

        void put(int place, int word) {
            int number = pageOf(place);
            if (pages[number] == null) {
                if (word == 0) {
                    return;
                }
                pages[number] = new int[PAGE_WORDS];
            }
            pages[number][wordOf(place)] = word;
        }

        int load(int place, int size) {
            return (get(place) >>> shiftOf(place, size)) & maskOf(size);
        }

        void store(int place, int size, int value) {
            int shift = shiftOf(place, size);
            int mask = maskOf(size) << shift;
            put(place, (get(place) & ~mask) | ((value << shift) & mask));
        }

        static int maskOf(int size) {
            return size == 4 ? -1 : (1 << (8 * size)) - 1;
        }

        private static int shiftOf(int place, int size) {
            return 8 * (4 - size - (place & 3));
        }

        private static int pageOf(int place) {
            return (place >>> 10) & (PAGES - 1);
        }

        private static int wordOf(int place) {
            return (place >>> 2) & (PAGE_WORDS - 1);
        }
    }

    /** The lines from outside, by RETIRED. */
    private static final class Lines {
        private static final int MOST = 32;

        private final int[] counts = new int[MOST];
        private final int[] values = new int[MOST];
        private int passed;
        int size;

        boolean add(int count, int lines) {
            if (count < 0 || size >= MOST || (size > 0 && count <= counts[size - 1])) {
                return false;
            }
            counts[size] = count;
            values[size] = lines;
            size++;
            return true;
        }

        /** RETIRED never falls between two resets, so entries once passed stay passed. */
        int at(int retired) {
            while (passed < size && counts[passed] <= retired) {
                passed++;
            }
            return passed == 0 ? 0 : values[passed - 1];
        }

        void reset() {
            size = 0;
            passed = 0;
        }
    }

    /** The maps of pages: four rows of words, which lie as the numbers of their SPECIALS do. */
    private static final class Maps {
        private static final int FIRST_SPECIAL = 1024;
        private static final int ROW = 128;
        private static final int CODE_MATCH = 0;
        private static final int CODE_PLACE = ROW;
        private static final int DATA_MATCH = 2 * ROW;
        private static final int DATA_PLACE = 3 * ROW;
        private static final int PAGE_BYTES = 1024;
        private static final int MATCH_HOLDS = 1;

        private final int[] words = new int[4 * ROW];
        final int sets;

        Maps(int sets) {
            this.sets = sets;
        }

        int get(int special) {
            return isOne(special) ? words[special - FIRST_SPECIAL] : 0;
        }

        void put(int special, int word) {
            if (isOne(special)) {
                words[special - FIRST_SPECIAL] = word;
            }
        }

        void reset() {
            Arrays.fill(words, 0);
        }

        /** The place of the code at an address, or an exception with a minus. */
        int codePlace(int address, int sr) {
            if ((address & 3) != 0) {
                return -NOT_ALIGNED;
            }
            int place = address;
            if ((sr & CODE_MAPPED) != 0) {
                int set = setOf(address);
                int entry = words[CODE_PLACE + set];
                if (!matches(words[CODE_MATCH + set], address)) {
                    return -CODE_UNMATCHED;
                }
                if ((entry & ((sr & SUPERVISOR) != 0 ? 4 : 1)) == 0) {
                    return -CODE_FORBIDDEN;
                }
                place = join(entry, address);
            }
            return place < 0 || place >= CODE_BYTES ? -NO_PLACE : place;
        }

        /** The place of the data at an aligned address, or an exception with a minus. */
        int dataPlace(int address, int sr, boolean store) {
            int place = address;
            if ((sr & DATA_MAPPED) != 0) {
                int set = setOf(address);
                int entry = words[DATA_PLACE + set];
                int bit = store ? 2 : 1;
                if (!matches(words[DATA_MATCH + set], address)) {
                    return -DATA_UNMATCHED;
                }
                if ((entry & ((sr & SUPERVISOR) != 0 ? 4 * bit : bit)) == 0) {
                    return -DATA_FORBIDDEN;
                }
                place = join(entry, address);
            }
            int least = store ? CODE_BYTES : 0;
            return place < least || place >= MEMORY_BYTES ? -NO_PLACE : place;
        }

        private boolean isOne(int special) {
            int index = special - FIRST_SPECIAL;
            return index >= 0 && index < words.length && index % ROW < sets;
        }

        private int setOf(int address) {
            return (address >>> 10) & (sets - 1);
        }

        private static boolean matches(int match, int address) {
            return (match & MATCH_HOLDS) != 0 && (match >>> 10) == (address >>> 10);
        }

        private static int join(int entry, int address) {
            return (entry & -PAGE_BYTES) | (address & (PAGE_BYTES - 1));
        }
    }

    /** The SPECIALS, with HELD and the lines that STATUS is made of. */
    private static final class Specials {
        private static final int COUNT_BITS = (1 << 28) - 1;
        private static final int PENDING = 1 << 28;
        private static final int MODE_SHIFT = 29;
        private static final int TIMER_BITS = 0x7FFFFFFF;
        private static final long LOW_WORD = 0xFFFFFFFFL;

        final Maps maps;
        final Lines lines = new Lines();
        int sr = SUPERVISOR;
        int epc;
        int esr;
        int eea;
        int held;
        long sum;
        private int count;
        private int timer;
        private int mask;
        private int retired;
        private int latch;

        Specials(int sets) {
            maps = new Maps(sets);
        }

        void reset() {
            maps.reset();
            lines.reset();
            sr = SUPERVISOR;
            epc = 0;
            esr = 0;
            eea = 0;
            held = 0;
            sum = 0;
            count = 0;
            timer = 0;
            mask = 0;
            retired = 0;
            latch = 0;
        }

        int read(int number) {
            switch (number) {
                case 0:
                    return sr;
                case 1:
                    return epc;
                case 2:
                    return esr;
                case 3:
                    return eea;
                case 4:
                    return count;
                case 5:
                    return timer;
                case 6:
                    return mask;
                case 7:
                    return status();
                case 8:
                    return retired;
                case 9:
                    return latch;
                case 10:
                    return (int) (sum >>> 32);
                case 11:
                    return (int) sum;
                default:
                    return maps.get(number);
            }
        }

        void write(int number, int value) {
            switch (number) {
                case 0:
                    sr = value & SR_BITS;
                    break;
                case 1:
                    epc = value;
                    break;
                case 2:
                    esr = value & SR_BITS;
                    break;
                case 3:
                    eea = value;
                    break;
                case 4:
                    count = value & COUNT_BITS;
                    break;
                case 5:
                    timer = value & TIMER_BITS;
                    break;
                case 6:
                    mask = value;
                    break;
                case 7:
                    held &= ~value;
                    break;
                case 9:
                    latch = value;
                    break;
                case 10:
                    sum = (sum & LOW_WORD) | ((long) value << 32);
                    break;
                case 11:
                    sum = (sum & ~LOW_WORD) | (value & LOW_WORD);
                    break;
                default:
                    maps.put(number, value);
                    break;
            }
        }

        boolean timerIsDue() {
            return (sr & TIMER_ON) != 0 && (timer & PENDING) != 0;
        }

        boolean lineIsDue() {
            return (sr & LINES_ON) != 0 && (status() & mask) != 0;
        }

        /** What every RETIRED instruction does, behind what it writes itself. */
        void retire() {
            retired++;
            countOne();
            held |= lines.at(retired) & latch;
        }

        private int status() {
            return (lines.at(retired) & ~latch) | (held & latch);
        }

        private void countOne() {
            int mode = timer >>> MODE_SHIFT;
            if (mode == 0) {
                return;
            }
            count = (count + 1) & COUNT_BITS;
            if (count != (timer & COUNT_BITS)) {
                return;
            }
            timer |= PENDING;
            if (mode == 1) {
                count = 0;
            }
            if (mode == 2) {
                timer &= PENDING | COUNT_BITS;
            }
        }
    }

    /** THE STATE but for MEMORY. */
    private static final class State {
        final int[] registers = new int[REGISTERS];
        final Specials specials;
        int pc = FIRST_PC;
        boolean inSlot;
        int branchAt;
        int target;

        State(int sets) {
            specials = new Specials(sets);
        }

        void reset() {
            Arrays.fill(registers, 0);
            specials.reset();
            pc = FIRST_PC;
            inSlot = false;
        }

        void goOn() {
            pc = inSlot ? target : pc + 4;
            inSlot = false;
        }

        void goToSlot(int wayOn) {
            branchAt = pc;
            target = wayOn;
            inSlot = true;
            pc += 4;
        }

        void goTo(int address) {
            pc = address;
            inSlot = false;
        }
    }

    /** A word taken apart. One that can not be read has no traits. */
    private static final class Instruction {
        int traits;
        int op;
        int d;
        int a;
        int b;
        int u;
        int i;
        int j;

        void decode(int word) {
            op = word >>> 26;
            d = (word >>> 21) & 31;
            a = (word >>> 16) & 31;
            b = (word >>> 11) & 31;
            u = word & 0xFFFF;
            i = (short) word;
            j = (word << 6) >> 6;
            traits = TRAITS[op];
            if (is(COMPARE) && d > 9) {
                traits = NO_INSTRUCTION;
            }
        }

        void setUnreadable() {
            traits = 0;
        }

        boolean is(int trait) {
            return (traits & trait) != 0;
        }

        /** The register that it writes, 0 if there is none: register 0 is never changed. */
        int writtenRegister() {
            if (is(WRITES_LINK)) {
                return LINK;
            }
            return is(WRITES_D) ? d : 0;
        }

        /**
         * A BRANCH that is not foreseen counts as foreseen not to go: it always goes, and what is
         * behind its SLOT is REDIRECTED just so.
         */
        boolean isForeseenToGo() {
            return op <= 21 || (op <= 23 && j < 0);
        }
    }

    /** What an instruction will do when the cycle of its event has come. */
    private static final class Effect {
        int exception;
        /** Whether the exception is one of a map, which tells its address. */
        boolean hasAddress;
        int address;
        int value;
        int size;
        int place;
        int stored;
        int sr;
        long sum;
        boolean goes;
        int target;

        void begin(int oldSr, long oldSum) {
            exception = 0;
            hasAddress = false;
            value = 0;
            size = 0;
            sr = oldSr;
            sum = oldSum;
            goes = false;
        }

        void failAt(int number, int failed) {
            exception = number;
            hasAddress = true;
            address = failed;
        }

        void setBit(int bit, boolean on) {
            sr = on ? sr | bit : sr & ~bit;
        }

        void setOverflow(boolean on) {
            setBit(OVERFLOW, on);
            if (on && (sr & RANGE_ON) != 0) {
                exception = OUT_OF_RANGE;
            }
        }
    }

    /** Works out the instruction that is come to, and does it later. */
    private static final class Executor {
        private static final int READ = 30;
        private static final int WRITE = 31;
        private static final int SYS = 32;
        private static final int RETURN = 33;
        private static final int TRAP = 56;
        private static final int LEAST_WORD = 1 << 31;
        private static final long UNSIGNED = 0xFFFFFFFFL;

        final Memory memory = new Memory();
        final State state;
        final Instruction instruction = new Instruction();
        final Effect effect = new Effect();

        Executor(int sets) {
            state = new State(sets);
        }

        /** Changes nothing but the instruction and its effect. */
        void comeTo() {
            Specials specials = state.specials;
            effect.begin(specials.sr, specials.sum);
            int place = specials.maps.codePlace(state.pc, specials.sr);
            if (place < 0) {
                instruction.setUnreadable();
            } else {
                instruction.decode(memory.get(place));
            }
            if (specials.timerIsDue()) {
                effect.exception = TIMER_DUE;
            } else if (specials.lineIsDue()) {
                effect.exception = LINE_DUE;
            } else if (place < 0) {
                effect.failAt(-place, state.pc);
            } else {
                workOut();
            }
        }

        void finish() {
            if (effect.exception == 0) {
                retire();
            } else {
                except();
            }
        }

        boolean retires() {
            return effect.exception == 0;
        }

        private void workOut() {
            if (isIllegal()) {
                effect.exception = ILLEGAL;
            } else if (instruction.is(BRANCH)) {
                branch();
            } else if (instruction.is(LOAD | STORE)) {
                access();
            } else if (instruction.is(SINGLE)) {
                single();
            } else if (instruction.is(COMPARE)) {
                compare();
            } else {
                calculate(state.registers[instruction.a], state.registers[instruction.b]);
            }
        }

        private boolean isIllegal() {
            if (instruction.is(UNKNOWN)) {
                return true;
            }
            if (instruction.is(PRIVILEGED) && (effect.sr & SUPERVISOR) == 0) {
                return true;
            }
            return state.inSlot && (instruction.is(BRANCH) || instruction.op == RETURN);
        }

        private void branch() {
            boolean flag = (effect.sr & FLAG) != 0;
            int op = instruction.op;
            effect.goes = op == 22 ? flag : op != 23 || !flag;
            effect.value = state.pc + 8;
            if (!effect.goes) {
                effect.target = state.pc + 8;
            } else if (op >= 24) {
                effect.target = state.registers[instruction.b];
            } else {
                effect.target = state.pc + 4 * instruction.j;
            }
        }

        private void access() {
            int address = state.registers[instruction.a] + instruction.i;
            int size = sizeOf(instruction.op);
            if ((address & (size - 1)) != 0) {
                effect.failAt(NOT_ALIGNED, address);
                return;
            }
            boolean store = instruction.is(STORE);
            int place = state.specials.maps.dataPlace(address, effect.sr, store);
            if (place < 0) {
                effect.failAt(-place, address);
            } else if (store) {
                effect.size = size;
                effect.place = place;
                effect.stored = state.registers[instruction.d] & Memory.maskOf(size);
            } else {
                effect.value = extend(memory.load(place, size));
            }
        }

        private int extend(int loaded) {
            switch (instruction.op) {
                case 51:
                    return (byte) loaded;
                case 53:
                    return (short) loaded;
                default:
                    return loaded;
            }
        }

        private static int sizeOf(int op) {
            switch (op) {
                case 27:
                case 29:
                case 51:
                    return 1;
                case 52:
                case 53:
                case 54:
                    return 2;
                default:
                    return 4;
            }
        }

        private void single() {
            switch (instruction.op) {
                case READ:
                    effect.value = state.specials.read(instruction.u);
                    break;
                case SYS:
                    effect.exception = SYSTEM_CALL;
                    break;
                case TRAP:
                    effect.exception = TRAPPED;
                    break;
                default:
                    break;
            }
        }

        private void compare() {
            int a = state.registers[instruction.a];
            int b = instruction.is(READS_B) ? state.registers[instruction.b] : instruction.i;
            int number = instruction.d;
            int order = number <= 5 ? Integer.compareUnsigned(a, b) : Integer.compare(a, b);
            effect.setBit(FLAG, holds(number <= 5 ? number : number - 4, order));
        }

        private static boolean holds(int relation, int order) {
            switch (relation) {
                case 0:
                    return order == 0;
                case 1:
                    return order != 0;
                case 2:
                    return order > 0;
                case 3:
                    return order >= 0;
                case 4:
                    return order < 0;
                default:
                    return order <= 0;
            }
        }

        private void calculate(int a, int b) {
            int carry = (effect.sr & CARRY) != 0 ? 1 : 0;
            int i = instruction.i;
            switch (instruction.op) {
                case 0:
                    add(a, b, 0);
                    break;
                case 10:
                    add(a, i, 0);
                    break;
                case 34:
                    add(a, b, carry);
                    break;
                case 35:
                    add(a, i, carry);
                    break;
                case 1:
                    subtract(a, b);
                    break;
                case 8:
                    multiply(a, b);
                    break;
                case 57:
                    multiply(a, i);
                    break;
                case 36:
                    multiplyUnsigned(a, b);
                    break;
                case 9:
                    divide(a, b);
                    break;
                case 37:
                    divideUnsigned(a, b);
                    break;
                case 38:
                    effect.sum += (long) a * b;
                    break;
                case 39:
                    effect.sum += (long) a * i;
                    break;
                case 40:
                    effect.sum -= (long) a * b;
                    break;
                case 41:
                    effect.value = (int) effect.sum;
                    effect.sum = 0;
                    break;
                default:
                    effect.value = plainResult(a, b, instruction.u);
                    break;
            }
        }

        private void add(int a, int b, int carry) {
            effect.value = a + b + carry;
            effect.setBit(CARRY, (a & UNSIGNED) + (b & UNSIGNED) + carry > UNSIGNED);
            effect.setOverflow((long) a + b + carry != effect.value);
        }

        private void subtract(int a, int b) {
            effect.value = a - b;
            effect.setBit(CARRY, Integer.compareUnsigned(a, b) < 0);
            effect.setOverflow((long) a - b != effect.value);
        }

        private void multiply(int a, int b) {
            effect.value = a * b;
            effect.setOverflow((long) a * b != effect.value);
        }

        private void multiplyUnsigned(int a, int b) {
            long product = (a & UNSIGNED) * (b & UNSIGNED);
            effect.value = (int) product;
            effect.setBit(CARRY, product >>> 32 != 0);
        }

        private void divide(int a, int b) {
            effect.value = b == 0 ? 0 : a / b;
            effect.setOverflow(b == 0 || (a == LEAST_WORD && b == -1));
        }

        private void divideUnsigned(int a, int b) {
            effect.value = b == 0 ? 0 : (int) ((a & UNSIGNED) / (b & UNSIGNED));
            effect.setBit(CARRY, b == 0);
        }

        /** The instructions that write nothing but D. */
        private int plainResult(int a, int b, int u) {
            switch (instruction.op) {
                case 2:
                    return a & b;
                case 3:
                    return a | b;
                case 4:
                    return a ^ b;
                case 5:
                    return a << (b & 31);
                case 6:
                    return a >>> (b & 31);
                case 7:
                    return a >> (b & 31);
                case 11:
                    return a & u;
                case 12:
                    return a | u;
                case 13:
                    return a ^ u;
                case 14:
                    return u << 16;
                case 15:
                    return a << (u & 31);
                case 16:
                    return a >>> (u & 31);
                case 17:
                    return a >> (u & 31);
                default:
                    return furtherResult(a, b, u);
            }
        }

        private int furtherResult(int a, int b, int u) {
            switch (instruction.op) {
                case 42:
                    return (short) a;
                case 43:
                    return (byte) a;
                case 44:
                    return a & 0xFFFF;
                case 45:
                    return a & 0xFF;
                case 46:
                    return (effect.sr & FLAG) != 0 ? a : b;
                case 47:
                    return a == 0 ? 0 : Integer.numberOfTrailingZeros(a) + 1;
                case 48:
                    return 32 - Integer.numberOfLeadingZeros(a);
                case 49:
                    return Integer.rotateRight(a, b & 31);
                case 50:
                    return Integer.rotateRight(a, u & 31);
                default:
                    return 0;
            }
        }

        private void retire() {
            Specials specials = state.specials;
            int register = instruction.writtenRegister();
            if (register != 0) {
                state.registers[register] = effect.value;
            }
            if (effect.size != 0) {
                memory.store(effect.place, effect.size, effect.stored);
            }
            specials.sr = effect.sr;
            specials.sum = effect.sum;
            if (instruction.op == WRITE) {
                specials.write(instruction.u, state.registers[instruction.a]);
            }
            if (instruction.op == RETURN) {
                specials.sr = specials.esr;
                state.goTo(specials.epc);
            } else if (instruction.is(BRANCH)) {
                state.goToSlot(effect.target);
            } else {
                state.goOn();
            }
            specials.retire();
        }

        private void except() {
            Specials specials = state.specials;
            int sr = specials.sr;
            specials.esr = sr;
            specials.sr = (sr & (FLAG | CARRY | OVERFLOW)) | SUPERVISOR;
            if (state.inSlot) {
                specials.epc = state.branchAt;
                specials.sr |= IN_SLOT;
            } else {
                specials.epc = effect.exception == SYSTEM_CALL ? state.pc + 4 : state.pc;
            }
            if (effect.hasAddress) {
                specials.eea = effect.address;
            }
            state.goTo(256 * effect.exception);
        }
    }

    /**
     * Gives each instruction its TIMES, in order. A time of 0 stands for "none yet": it is below
     * every cycle, so what has to be above it always is.
     */
    private static final class Pipeline {
        private static final int KEPT_ISSUES = 8;
        private static final int FLAG_READY = REGISTERS;
        private static final int CARRY_READY = REGISTERS + 1;
        private static final int SUM_READY = REGISTERS + 2;
        private static final int DIVIDER_READY = REGISTERS + 3;

        /** F, T and C of the latest instruction. */
        int fetched;
        int issued;
        int ended;

        private final int[] issues = new int[KEPT_ISSUES];
        private final int[] ready = new int[REGISTERS + 4];
        private int order;
        private int endedBefore;
        private int traits;
        private int pc;
        private boolean beganGroup;
        /** Whether the next one can not be in the group of the latest, wherever it lies. */
        private boolean breaksGroup;
        private int redirectedFetch;
        private boolean branchForeseenToGo;
        private boolean branchRedirects;

        void reset() {
            Arrays.fill(issues, 0);
            Arrays.fill(ready, 0);
            fetched = 0;
            issued = 0;
            ended = 0;
            order = 0;
            endedBefore = 0;
            traits = 0;
            pc = 0;
            beganGroup = false;
            breaksGroup = false;
            redirectedFetch = 0;
        }

        void take(Executor executor) {
            Instruction instruction = executor.instruction;
            boolean retires = executor.retires();
            fetch(executor.state.pc);
            issue(instruction);
            end(instruction, retires);
            if (retires) {
                noteWrites(instruction);
            }
            noteWayOn(instruction, executor);
            traits = instruction.traits;
            order++;
        }

        private void fetch(int nextPc) {
            boolean joins = beganGroup && !breaksGroup && nextPc == pc + 4;
            if (!joins) {
                int above = Math.max(fetched, issueOf(order - 5));
                fetched = Math.max(above + 1, redirectedFetch);
            }
            beganGroup = !joins;
            pc = nextPc;
        }

        private void issue(Instruction next) {
            int time = Math.max(fetched + 2, mayPairWith(next) ? issued : issued + 1);
            if (next.is(SINGLE)) {
                time = Math.max(time, ended + 1);
            }
            if (next.is(DIVIDE)) {
                time = Math.max(time, ready[DIVIDER_READY]);
            }
            issued = Math.max(time, readyToRead(next));
            issues[order & (KEPT_ISSUES - 1)] = issued;
        }

        /** That the second reads nothing of the first needs no look: it waits for it anyway. */
        private boolean mayPairWith(Instruction next) {
            if ((traits & (SINGLE | BRANCH)) != 0 || next.is(SINGLE)) {
                return false;
            }
            if ((traits & (LOAD | STORE)) != 0 && next.is(LOAD | STORE)) {
                return false;
            }
            if ((traits & (MULTIPLY | DIVIDE)) != 0 && next.is(MULTIPLY | DIVIDE)) {
                return false;
            }
            return issueOf(order - 2) < issued;
        }

        private int readyToRead(Instruction next) {
            int time = next.is(READS_A) ? ready[next.a] : 0;
            if (next.is(READS_B)) {
                time = Math.max(time, ready[next.b]);
            }
            if (next.is(READS_D)) {
                time = Math.max(time, ready[next.d]);
            }
            if (next.is(READS_FLAG)) {
                time = Math.max(time, ready[FLAG_READY]);
            }
            if (next.is(READS_CARRY)) {
                time = Math.max(time, ready[CARRY_READY]);
            }
            if (next.is(TAKES_SUM)) {
                time = Math.max(time, ready[SUM_READY]);
            }
            return time;
        }

        private void end(Instruction next, boolean retires) {
            int time = issued + 3;
            if (next.is(MULTIPLY)) {
                time = issued + 5;
            }
            if (next.is(DIVIDE)) {
                time = issued + 20;
            }
            time = Math.max(time, retires ? ended : ended + 1);
            time = Math.max(time, endedBefore + 1);
            endedBefore = ended;
            ended = time;
        }

        /**
         * What a SINGLE one writes besides D, and a DIVIDE that is an exception, need no note: all
         * that comes behind them is fetched above their C.
         */
        private void noteWrites(Instruction done) {
            int time = issued + delayOf(done);
            int register = done.writtenRegister();
            if (register != 0) {
                ready[register] = time;
            }
            if (done.is(COMPARE)) {
                ready[FLAG_READY] = time;
            }
            if (done.is(WRITES_CARRY)) {
                ready[CARRY_READY] = time;
            }
            if (done.is(ADDS_TO_SUM)) {
                ready[SUM_READY] = time;
            }
            if (done.is(DIVIDE)) {
                ready[DIVIDER_READY] = time;
            }
        }

        private static int delayOf(Instruction done) {
            if (done.is(DIVIDE)) {
                return 18;
            }
            if (done.is(MULTIPLY)) {
                return 3;
            }
            return done.is(LOAD) ? 2 : 1;
        }

        private void noteWayOn(Instruction done, Executor executor) {
            boolean inSlot = executor.state.inSlot;
            breaksGroup = inSlot && (branchForeseenToGo || branchRedirects);
            // The one ahead of a SLOT is its branch.
            redirectedFetch = inSlot && branchRedirects ? issueOf(order - 1) + 2 : 0;
            if (done.is(SINGLE) || !executor.retires()) {
                breaksGroup = true;
                redirectedFetch = ended + 1;
            }
            if (done.is(BRANCH)) {
                branchForeseenToGo = done.isForeseenToGo();
                branchRedirects = branchForeseenToGo != executor.effect.goes;
            }
        }

        private int issueOf(int number) {
            return issues[number & (KEPT_ISSUES - 1)];
        }
    }

    /** THE RECORD, and what is counted of all EVENTS. */
    private static final class EventRecord {
        static final int FIRST_VALUE = 8;
        private static final int KEPT = 256;
        private static final int FIELDS = 11;

        private final int[] fields = new int[KEPT * FIELDS];
        int count;
        int exceptions;
        int doubleCycles;
        int longestWay;
        private int lastCycle;

        void reset() {
            count = 0;
            exceptions = 0;
            doubleCycles = 0;
            longestWay = 0;
            lastCycle = 0;
        }

        boolean keeps(int event) {
            return event >= 0 && event < count && event >= count - KEPT;
        }

        int firstKept() {
            return count == 0 ? NONE : Math.max(0, count - KEPT);
        }

        int field(int event, int field) {
            return fields[(event & (KEPT - 1)) * FIELDS + field];
        }

        /** Has to come before the executor finishes, which moves PC on. */
        void add(Executor executor, Pipeline pipeline) {
            countCycle(pipeline.ended);
            if (!executor.retires()) {
                exceptions++;
            }
            int at = (count & (KEPT - 1)) * FIELDS;
            fields[at] = pipeline.ended;
            fields[at + 1] = executor.effect.exception;
            fields[at + 5] = executor.state.inSlot ? 1 : 0;
            fields[at + 6] = pipeline.fetched;
            fields[at + 7] = pipeline.issued;
            fields[at + FIRST_VALUE] = executor.state.pc;
            keepWrites(at, executor);
            count++;
        }

        private void keepWrites(int at, Executor executor) {
            Instruction instruction = executor.instruction;
            Effect effect = executor.effect;
            boolean retires = executor.retires();
            int register = retires ? instruction.writtenRegister() : 0;
            boolean stores = retires && effect.size != 0;
            fields[at + 2] = register == 0 ? NONE : register;
            fields[at + 3] = retires && instruction.is(COMPARE) ? 1 : 0;
            fields[at + 4] = stores ? effect.place : NONE;
            fields[at + FIRST_VALUE + 1] = register == 0 ? 0 : effect.value;
            fields[at + FIRST_VALUE + 2] = stores ? effect.stored : 0;
        }

        private void countCycle(int cycle) {
            if (count > 0 && cycle == lastCycle) {
                doubleCycles++;
            }
            longestWay = Math.max(longestWay, cycle - lastCycle);
            lastCycle = cycle;
        }
    }
}
