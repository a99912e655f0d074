import java.util.HashSet;
import java.util.Set;

/** Compares answers with those that are due, and ends a test's main method. */
public final class Due {
    private static int checked = 0;
    private static int wrong = 0;
    private static final Set<String> SENTENCES = new HashSet<>();
    private static String about = "";

    private Due() {
    }

    /** The sentence of the document that the answers from here on are due by. */
    public static void about(String sentence) {
        about = "[" + sentence + "] ";
        SENTENCES.add(sentence);
    }

    public static void equal(String what, long got, long want) {
        checked++;
        if (got != want) {
            wrong++;
            // A broken rule may fail in thousands of rows: the first ones tell enough.
            if (wrong <= 20) {
                System.out.println(about + what + " answered " + got + ", due is " + want);
            }
        }
    }

    public static void yes(String what, boolean got) {
        equal(what, got ? 1 : 0, 1);
    }

    public static void no(String what, boolean got) {
        equal(what, got ? 1 : 0, 0);
    }

    public static void end() {
        String told = SENTENCES.isEmpty() ? "" : SENTENCES.size() + " sentences, ";
        System.out.println(told + checked + " answers looked at, " + wrong + " not as due");
        if (wrong != 0 || checked == 0) {
            System.exit(1);
        }
    }
}
