/** Counts and prints the answers that are not the due ones; finish() ends the test with exit code 1 if there is one. */
final class Expect {
    private static int wrong = 0;
    private static String words = "";

    private Expect() {
    }

    interface Call {
        Object answer();
    }

    /** The words of the document that the checks from here on stand for: what is wrong is told with them. */
    static void sentence(String told) {
        words = told;
    }

    static void due(String call, Object want, Call made) {
        Object got;
        try {
            got = made.answer();
        } catch (RuntimeException e) {
            got = e.getClass().getSimpleName();
        }
        if (!want.equals(got)) {
            wrong++;
            String behind = words.isEmpty() ? "" : " [" + words + "]";
            System.out.println(call + " answered " + got + ", due is " + want + behind);
        }
    }

    static void bounds(String call, Call made) {
        due(call, "IndexOutOfBoundsException", made);
    }

    static void argument(String call, Call made) {
        due(call, "IllegalArgumentException", made);
    }

    static void state(String call, Call made) {
        due(call, "IllegalStateException", made);
    }

    /** Several numbers as one text, so that a row of answers is one line of a test. */
    static String row(int... answers) {
        return java.util.Arrays.toString(answers);
    }

    static void finish() {
        if (wrong > 0) {
            System.out.println(wrong + " answers are not due");
            System.exit(1);
        }
    }
}
