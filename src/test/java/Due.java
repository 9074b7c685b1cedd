/** Collects the answers that are not as due, and ends a test with exit code 1 if there was one. */
final class Due {
    private static int asked = 0;
    private static int wrong = 0;

    private Due() {
    }

    static void is(String call, long got, long want) {
        is("", call, got, want);
    }

    static void is(String when, String call, long got, long want) {
        asked++;
        if (got != want) {
            wrong++;
            System.out.println(when + call + " answered " + got + ", due is " + want);
        }
    }

    static void end(String test) {
        System.out.println(test + ": " + (asked - wrong) + " of " + asked + " answers are as due");
        // A test that asks nothing must not look like one that holds.
        if (wrong != 0 || asked == 0) {
            System.exit(1);
        }
    }
}
