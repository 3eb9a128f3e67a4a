/** Compares answers with those that are due, prints the wrong ones and ends the test. */
final class Due {
    private static int wrong = 0;
    private static int asked = 0;
    private static String topic = "";

    private Due() {
    }

    static void about(String name) {
        topic = name;
    }

    static void is(String call, long got, long want) {
        asked++;
        if (got != want) {
            wrong++;
            if (wrong <= 50) {
                System.out.println(topic + ": " + call + " answered " + got + ", due is " + want);
            }
        }
    }

    static void is(String call, boolean got, boolean want) {
        is(call, got ? 1 : 0, want ? 1 : 0);
    }

    static void holds(String what, boolean so) {
        is(what, so, true);
    }

    static void end() {
        System.out.println(asked + " answers, " + wrong + " of them wrong");
        if (wrong != 0 || asked == 0) {
            System.exit(1);
        }
    }
}
