/** Counts wrong answers of one test and ends it with exit code 1 if there was one. */
final class Checks {
    private final String test;
    private int made;
    private int wrong;

    Checks(String test) {
        this.test = test;
    }

    void due(long got, long want) {
        made++;
        if (got != want) {
            wrong++;
            int line = new Throwable().getStackTrace()[1].getLineNumber();
            System.out.println(test + ":" + line + ": answered " + got + ", due is " + want);
        }
    }

    void holds(boolean condition, String what) {
        made++;
        if (!condition) {
            wrong++;
            System.out.println(test + ": not so: " + what);
        }
    }

    void end() {
        System.out.println(test + ": " + made + " checks, " + wrong + " wrong");
        if (wrong != 0 || made == 0) {
            System.exit(1);
        }
    }
}
