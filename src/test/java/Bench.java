/** A machine with a program that is laid word by word. */
final class Bench {
    final TwinIssue x;
    private int at = 256;

    Bench() {
        this(16);
    }

    Bench(int sets) {
        x = new TwinIssue(sets);
    }

    Bench at(int address) {
        at = address;
        return this;
    }

    Bench put(int... words) {
        for (int word : words) {
            Check.due("giveWord(" + at + ")", x.giveWord(at, word), true);
            at += 4;
        }
        return this;
    }

    /** A loop that changes no bit of SR (words of MEMORY that are 0 are ADDs, and do). */
    Bench halt() {
        return put(Code.jump(Code.JUMP, 0), Code.nothing());
    }

    /** Such a loop here, and one where each exception goes. */
    Bench halts() {
        halt();
        int here = at;
        for (int exception = 2; exception < 15; exception++) {
            at(256 * exception).halt();
        }
        return at(here);
    }

    Bench register(int register, int value) {
        Check.due("setRegister(" + register + ")", x.setRegister(register, value), true);
        return this;
    }

    Bench lines(int count, int lines) {
        Check.due("linesFrom(" + count + ")", x.linesFrom(count, lines), true);
        return this;
    }

    /** Writes a SPECIAL through a register that is set before the run. */
    Bench special(int special, int register, int value) {
        register(register, value);
        return put(Code.write(special, register));
    }

    Bench run(int cycles) {
        Check.due("runCycles(" + cycles + ") runs", x.runCycles(cycles) >= 0, true);
        return this;
    }

    /** F, T and C of the EVENTS from one on, three numbers each. */
    void times(String name, int first, int... due) {
        for (int k = 0; k + 2 < due.length; k += 3) {
            int event = first + k / 3;
            Check.due(name + ": F of event " + event, x.eventOf(event, 6), due[k]);
            Check.due(name + ": T of event " + event, x.eventOf(event, 7), due[k + 1]);
            Check.due(name + ": C of event " + event, x.eventOf(event, 0), due[k + 2]);
        }
    }

    void event(String name, int event, int pc, int exception) {
        Check.due(name + ": PC of event " + event, x.valueOf(event, 0), pc);
        Check.due(name + ": exception of event " + event, x.eventOf(event, 1), exception);
    }

    void special(String name, int special, int due) {
        Check.due(name + ": special " + special, x.specialOf(special), due);
    }

    void register(String name, int register, int due) {
        Check.due(name + ": register " + register, x.registerOf(register), due);
    }
}
