/** Counts and prints the answers that are not the ones that are due. */
final class Check {
    private static final int MOST_PRINTED = 40;

    private static String sentence = "";
    private static int sentences;
    private static int wrong;
    private static int done;

    private Check() {
    }

    /** The sentence of the document that the answers from here on are due to. */
    static void sentence(String section, String words) {
        sentences++;
        sentence = section + ", '" + words + "': ";
    }

    static void due(String call, long got, long want) {
        done++;
        if (got != want) {
            wrong++;
            if (wrong <= MOST_PRINTED) {
                System.out.println(sentence + call + " answered " + got + ", due is " + want);
            }
        }
    }

    static void due(String call, boolean got, boolean want) {
        due(call, got ? 1 : 0, want ? 1 : 0);
    }

    static void due(String call, int[] got, int[] want) {
        due(call + " (how many)", got.length, want.length);
        for (int k = 0; k < got.length && k < want.length; k++) {
            due(call + " (" + k + ")", got[k], want[k]);
        }
    }

    static int wrong() {
        return wrong;
    }

    static void end(String name) {
        String of = sentences == 0 ? "" : " to " + sentences + " sentences";
        System.out.println(name + ": " + done + " answers" + of + ", " + wrong + " not as due");
        if (wrong != 0 || done == 0) {
            System.exit(1);
        }
    }
}
