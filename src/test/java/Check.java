import java.util.Arrays;

/** Counts and prints the answers that are not as due. */
final class Check {
    private static int asked = 0;
    private static int wrong = 0;
    private static String about = "";

    private Check() {
    }

    /** What is asked from here on is asked for these words; none to end it. */
    static void about(String words) {
        about = words.isEmpty() ? "" : words + ": ";
    }

    static void due(String what, long want, long got) {
        asked++;
        if (got != want) {
            wrong++;
            System.out.println(about + what + " answered " + got + ", due is " + want);
        }
    }

    static void due(String what, byte[] want, byte[] got) {
        asked++;
        if (!Arrays.equals(want, got)) {
            wrong++;
            System.out.println(about + what + " told " + Arrays.toString(got) + ", due is " + Arrays.toString(want));
        }
    }

    static void holds(String what, boolean good) {
        asked++;
        if (!good) {
            wrong++;
            System.out.println(about + "does not hold: " + what);
        }
    }

    static int askedSoFar() {
        return asked;
    }

    static int wrongSoFar() {
        return wrong;
    }

    /** Ends the program: with 1 if an answer was wrong, or if none was asked for. */
    static void finish(String name) {
        System.out.println(name + ": " + asked + " answers, " + wrong + " not as due");
        System.exit(wrong == 0 && asked > 0 ? 0 : 1);
    }
}
