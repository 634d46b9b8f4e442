/** Counts and prints the answers that are not the ones that are due. */
final class Check {
    private final String test;
    private int checked;
    private int wrong;

    Check(String test) {
        this.test = test;
    }

    void due(String what, long got, long want) {
        checked++;
        if (got != want) {
            wrong++;
            System.out.println(test + ": " + what + " answered " + got + ", due is " + want);
        }
    }

    void due(String what, boolean got, boolean want) {
        due(what, got ? 1 : 0, want ? 1 : 0);
    }

    void due(String what, String got, String want) {
        checked++;
        if (!got.equals(want)) {
            wrong++;
            System.out.println(test + ": " + what + " answered \"" + got + "\", due is \"" + want + "\"");
        }
    }

    int wrong() {
        return wrong;
    }

    void end() {
        System.out.println(test + ": " + checked + " answers, " + wrong + " not as due");
        if (wrong != 0) {
            System.exit(1);
        }
    }
}
