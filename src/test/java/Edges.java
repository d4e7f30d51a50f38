/** What the tests of boundary cases have in common: runs that name a sentence, and states to begin in. */
abstract class Edges {
    static final int INVALID = -1;
    static final int NOT_POSSIBLE = -2;
    static final int LIMIT = -3;
    static final int NOT_FOUND = -4;
    static final int MOST = 2147483647;

    /** In port: lockers 0 and 1 with the seals 1 and 2, goods 0 (duty 100) and 1 (duty 7). */
    static final String[] EMPTY = {"locker()", "locker()", "good(100)", "good(7)"};
    /** The bonds 0 and 1 of good 0 (10 and 20 units), 2 of good 1 (30 units); seals 5 and 4 on the lockers 0 and 1. */
    static final String[] LOADED = {"locker()", "locker()", "good(100)", "good(7)", "load(0, 0, 10)",
        "load(1, 0, 20)", "load(0, 1, 30)"};
    /** The amounts of three bonds of the goods 0, 1, 2, which are all in the locker 0, make 2147483647 together. */
    static final String[] MOST_CENTS = {"locker()", "good(1000000)", "good(1000)", "good(1)", "load(0, 0, 2147)",
        "load(0, 1, 483)", "load(0, 2, 647)"};
    static final String[] TO_SEA = {"cross(1)", "cross(0)"};
    static final String[] TO_PORT = {"cross(1)", "cross(2)"};

    private final Checks checks;
    private final Document document;

    Edges(Checks checks, Document document) {
        this.checks = checks;
        this.document = document;
    }

    abstract void all();

    Run promise(int number, String sentence) {
        return test("Promise " + number, sentence);
    }

    Run terms(String sentence) {
        return test("Terms", sentence);
    }

    /** In port with one locker, a good (duty 1), and as many seals left as told. */
    static Run fewSeals(Run run, int left) {
        return run.after("locker()", "good(1)").times(199 - left, "inspect(0)");
    }

    /** On the day 4980. */
    static Run late(Run run) {
        return run.times(83, "pass(60)");
    }

    private Run test(String section, String sentence) {
        document.name(section, sentence);
        return new Run(checks, section + ": " + sentence);
    }
}
