/** All that can be asked of an object, but for most of MEMORY and of THE RECORD, in 120 calls. */
final class Picture {
    private static final int CALLS = 120;
    private static final int[] WORDS = {
        0, 4, 8, 252, 256, 260, 264, 268, 512, 1024, 32760, 32764, 32768, 32772, 40000, 40004, 65528,
        65532,
    };

    private final int[] answers = new int[CALLS];
    private int size;

    private Picture() {
    }

    static int[] of(TwinIssue x) {
        Picture picture = new Picture();
        picture.addState(x);
        picture.addEvent(x, x.lookAt(4));
        picture.addEvent(x, x.lookAt(1) - 1);
        for (int address : WORDS) {
            picture.add(x.wordAt(address));
        }
        return java.util.Arrays.copyOf(picture.answers, picture.size);
    }

    /** Makes MEMORY of one object that of another one, where a picture looks. */
    static void copyWords(TwinIssue from, TwinIssue to) {
        for (int address : WORDS) {
            Check.due("giveWord " + address, to.giveWord(address, from.wordAt(address)), true);
        }
    }

    private void addState(TwinIssue x) {
        for (int register = 0; register < 32; register++) {
            add(x.registerOf(register));
        }
        for (int special = 0; special < 12; special++) {
            add(x.specialOf(special));
        }
        for (int first = 1024; first < 1536; first += 128) {
            add(x.specialOf(first));
            add(x.specialOf(first + 15));
        }
        for (int which = 0; which < 3; which++) {
            add(x.placeOf(which));
        }
        for (int which = 0; which < 9; which++) {
            add(x.lookAt(which));
        }
    }

    private void addEvent(TwinIssue x, int event) {
        for (int what = 0; what < 8; what++) {
            add(x.eventOf(event, what));
        }
        for (int what = 0; what < 3; what++) {
            add(x.valueOf(event, what));
        }
    }

    private void add(int answer) {
        answers[size] = answer;
        size++;
    }
}
