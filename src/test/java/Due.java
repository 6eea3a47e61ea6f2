/** Counts the answers that are not as due, and prints them. */
final class Due {
    private final String about;
    private int calls = 0;
    private int wrong = 0;

    Due(String about) {
        this.about = about;
    }

    void is(String call, long got, long want) {
        calls++;
        if (got != want) {
            wrong++;
            System.out.println(call + " answered " + got + ", due is " + want);
        }
    }

    /** Ends the program with 1, if one was wrong. */
    void end() {
        System.out.println(about + ": " + calls + " answers, " + wrong + " not as due");
        if (wrong != 0 || calls == 0) System.exit(1);
    }
}
