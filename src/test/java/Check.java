/** Counts and prints the answers of one test that are not as due. */
final class Check {
    private static int wrong = 0;
    private static int asked = 0;
    private static String sentence = "";

    private Check() {
    }

    /** The document's sentence that the answers from here on show; it is printed with a wrong one. */
    static void sentence(String words) {
        sentence = "\"" + words + "\": ";
    }

    static void due(String call, long got, long want) {
        asked++;
        if (got != want) {
            wrong++;
            System.out.println(sentence + call + " answered " + got + ", due is " + want);
        }
    }

    static void due(String call, boolean got, boolean want) {
        due(call, got ? 1 : 0, want ? 1 : 0);
    }

    /** Calls that are refused, or only read, leave all that can be read as it was. */
    static void unchanged(MovingGuest x, Runnable calls) {
        String before = Readings.of(x);
        calls.run();
        String after = Readings.of(x);
        if (!before.equals(after)) {
            System.out.println("before: " + before);
            System.out.println("after:  " + after);
        }
        due("all is as before", before.equals(after), true);
    }

    static void end() {
        System.out.println(asked + " answers, " + wrong + " not as due");
        if (wrong != 0 || asked == 0) {
            System.exit(1);
        }
    }
}
