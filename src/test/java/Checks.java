/** Counts answers that are not due, and tells each of them. */
final class Checks {
    private int wrong;
    private int all;
    private String about = "";

    void about(String what) {
        about = what;
    }

    void due(String call, long got, long want) {
        all++;
        if (got != want) {
            wrong++;
            System.out.println(about + ": " + call + " answered " + got + ", due is " + want);
        }
    }

    void due(String call, boolean got, boolean want) {
        due(call, got ? 1 : 0, want ? 1 : 0);
    }

    /** Ends the test: with exit code 1 if an answer was not due. */
    void end(String name) {
        System.out.println(name + ": " + all + " answers looked at, " + wrong + " not as due");
        if (wrong != 0 || all == 0) {
            System.exit(1);
        }
    }
}
