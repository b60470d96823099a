/** Counts answers that are due and those that are not, and ends a test accordingly. */
final class Due {
    private int right = 0;
    private int wrong = 0;

    void is(String call, long got, long want) {
        if (got == want) {
            right++;
        } else {
            wrong++;
            System.out.println(call + " answered " + got + ", due is " + want);
        }
    }

    void is(String call, boolean got, boolean want) {
        is(call, got ? 1 : 0, want ? 1 : 0);
    }

    void close(String test) {
        System.out.println(test + ": " + right + " answers as due, " + wrong + " not");
        if (wrong != 0) {
            System.exit(1);
        }
    }
}
