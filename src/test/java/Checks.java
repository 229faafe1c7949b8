/** Counts the checks of one test, prints those that fail, and ends the program by them. */
final class Checks {
    private int made = 0;
    private int wrong = 0;

    void due(String what, long got, long want) {
        made++;
        if (got != want) {
            wrong++;
            System.out.println(what + " answered " + got + ", due is " + want);
        }
    }

    void due(String what, boolean got, boolean want) {
        due(what, got ? 1L : 0L, want ? 1L : 0L);
    }

    void isTrue(String what, boolean got) {
        due(what, got, true);
    }

    /** A test that checks nothing has failed too. */
    void end() {
        System.out.println((made - wrong) + " of " + made + " checks are as due");
        if (wrong != 0 || made == 0) {
            System.exit(1);
        }
    }
}
