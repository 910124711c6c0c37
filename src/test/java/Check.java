/** Counts and prints the answers that are not as due; one object for each test. */
final class Check {
    private final String test;
    private int wrong = 0;
    private int asked = 0;

    Check(String test) {
        this.test = test;
    }

    void due(String call, long got, long want) {
        asked++;
        if (got != want) {
            wrong++;
            System.out.println(test + ": " + call + " answered " + got + ", due is " + want);
        }
    }

    void isTrue(String what, boolean is) {
        asked++;
        if (!is) {
            wrong++;
            System.out.println(test + ": it does not hold that " + what);
        }
    }

    int wrongs() {
        return wrong;
    }

    int asked() {
        return asked;
    }

    /** Ends the program with exit code 1, if an answer was wrong or nothing was asked. */
    void end() {
        System.out.println(test + ": " + asked + " answers, " + wrong + " not as due");
        if (wrong != 0 || asked == 0) {
            System.exit(1);
        }
    }
}
