/** Counts and prints the answers that are not as due; a test ends with end(). */
final class Check {
    private final String test;
    private int wrong;

    Check(String test) {
        this.test = test;
    }

    void is(String call, long got, long due) {
        is(call, String.valueOf(got), String.valueOf(due));
    }

    void is(String call, String got, String due) {
        if (!got.equals(due)) {
            wrong++;
            System.out.println(test + ": " + call + " answered " + got + ", due is " + due);
        }
    }

    void yes(String call, boolean got) {
        is(call, String.valueOf(got), "true");
    }

    void no(String call, boolean got) {
        is(call, String.valueOf(got), "false");
    }

    void end() {
        if (wrong > 0) {
            System.out.println(test + ": " + wrong + " answers are not as due");
            System.exit(1);
        }
    }
}
