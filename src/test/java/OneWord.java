/** Programs of one word, D = 3, A = 1 and B = 2, with all bits of SR given but for SUPERVISOR. */
final class OneWord {
    static final int SUPERVISOR = 1;
    static final int FLAG = 32;
    static final int CARRY = 128;
    static final int OVERFLOW = 256;
    static final int RANGE_ON = 512;

    private final int word;
    private final int a;
    private final int b;

    private OneWord(int word, int a, int b) {
        this.word = word;
        this.a = a;
        this.b = b;
    }

    static OneWord of(int op, int a, int b) {
        return new OneWord(Code.abd(op, 3, 1, 2), a, b);
    }

    static OneWord withLow(int op, int a, int low) {
        return new OneWord(Code.imm(op, 3, 1, low), a, 0);
    }

    static OneWord ofWord(int word, int a, int b) {
        return new OneWord(word, a, b);
    }

    private String name(int sr) {
        return "OP " + (word >>> 26) + " of " + a + " and " + (b == 0 ? (short) word : b)
                + " with SR " + sr;
    }

    private Bench done(int sr) {
        Bench bench = new Bench();
        bench.special(0, 30, sr | SUPERVISOR).register(1, a).register(2, b).register(3, 99);
        return bench.put(word).halts().run(60);
    }

    /** Its result, and the bits of SR behind it. */
    void gives(int sr, int due, int srBehind) {
        Bench bench = done(sr);
        String name = name(sr);
        bench.event(name, 1, 260, 0);
        bench.register(name, 3, due);
        bench.special(name, 0, srBehind | SUPERVISOR);
        bench.register(name, 1, a);
        bench.register(name, 2, b);
        Check.due(name + ": register written", bench.x.eventOf(1, 2), 3);
        Check.due(name + ": value written", bench.x.valueOf(1, 1), due);
        Check.due(name + ": no compare", bench.x.eventOf(1, 3), 0);
        Check.due(name + ": no place", bench.x.eventOf(1, 4), -1);
        Check.due(name + ": nothing stored", bench.x.valueOf(1, 2), 0);
    }

    /** Its result; SR stays, whatever it is. */
    void gives(int due) {
        gives(0, due, 0);
        gives(FLAG | CARRY | OVERFLOW, due, FLAG | CARRY | OVERFLOW);
    }

    /** With either CARRY before it CARRY is this one. OVERFLOW is not looked at. */
    void setsCarry(boolean due) {
        for (int sr : new int[] {0, CARRY, FLAG | OVERFLOW}) {
            int behind = done(sr).x.specialOf(0);
            Check.due(name(sr) + ": CARRY", (behind & CARRY) != 0, due);
            Check.due(name(sr) + ": FLAG stays", behind & FLAG, sr & FLAG);
        }
    }

    /** With either OVERFLOW before it OVERFLOW is this one. CARRY is not looked at. */
    void setsOverflow(boolean due) {
        for (int sr : new int[] {0, OVERFLOW, FLAG | OVERFLOW}) {
            int behind = done(sr).x.specialOf(0);
            Check.due(name(sr) + ": OVERFLOW", (behind & OVERFLOW) != 0, due);
            Check.due(name(sr) + ": FLAG stays", behind & FLAG, sr & FLAG);
        }
    }

    /** FLAG of a COMPARE, whatever it was. */
    void setsFlag(boolean due) {
        for (int sr : new int[] {0, FLAG, CARRY | OVERFLOW}) {
            Bench bench = done(sr);
            bench.special(name(sr), 0, sr & ~FLAG | (due ? FLAG : 0) | SUPERVISOR);
            Check.due(name(sr) + ": is a COMPARE", bench.x.eventOf(1, 3), 1);
            bench.register(name(sr), 3, 99);
        }
    }

    /** With RANGE ON it is exception 11 and does nothing, or is none. */
    void isOutOfRange(int sr, boolean due) {
        Bench bench = done(sr | RANGE_ON);
        String name = name(sr | RANGE_ON);
        bench.event(name, 1, 260, due ? 11 : 0);
        Check.due(name + ": exceptions", bench.x.lookAt(2), due ? 1 : 0);
        if (due) {
            bench.register(name, 3, 99);
            bench.special(name, 1, 260);
            bench.special(name, 2, sr | RANGE_ON | SUPERVISOR);
            bench.special(name, 0, sr & (FLAG | CARRY | OVERFLOW) | SUPERVISOR);
            bench.special(name, 3, 0);
            Check.due(name + ": no register", bench.x.eventOf(1, 2), -1);
            Check.due(name + ": no value", bench.x.valueOf(1, 1), 0);
            Check.due(name + ": goes on at 2816", bench.x.valueOf(2, 0), 2816);
        }
    }

    /** It has an exception and goes there. */
    void isException(int due) {
        Bench bench = done(0);
        bench.event(name(0), 1, 260, due);
        bench.register(name(0), 3, 99);
        Check.due(name(0) + ": goes on", bench.x.valueOf(2, 0), 256 * due);
    }
}
