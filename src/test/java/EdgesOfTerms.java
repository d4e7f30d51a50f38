/** The boundary cases that the terms name, but for the texts. */
final class EdgesOfTerms extends Edges {
    EdgesOfTerms(Checks checks, Document document) {
        super(checks, document);
    }

    @Override
    void all() {
        zones();
        lockersAndSeals();
        goodsAndBonds();
        releases();
        whatBecomesOfGoods();
        counting();
        countingOfTheLast();
        daysThatGoBy();
        settings();
        changes();
        changesOfTheLast();
        history();
        invalidFirst();
        notPossibleFirst();
        errorsChangeNothing();
        nothingOfThatNumber();
        constants();
    }

    private void zones() {
        terms("All numbers are whole numbers. Money is told in cents.")
            .after(LOADED).due("bring(0, 1, 1)", 7).due("cents(3)", 7);
        terms("The ship is in one of the zones 0 (open sea), 1 (waters), 2 (port); at first it is in port, on the "
            + "day 0.")
            .due("count(5)", 2).due("count(6)", 0).after("cross(1)").due("count(5)", 1).after("cross(0)")
            .due("count(5)", 0).due("count(6)", 0);
        terms("From the open sea it can cross to the waters, from a port to the waters, and from the waters to both.")
            .due("cross(2)", NOT_POSSIBLE).due("cross(0)", NOT_POSSIBLE).due("cross(1)", 0)
            .due("cross(1)", NOT_POSSIBLE).due("cross(2)", 0).due("cross(1)", 0).due("cross(0)", 0)
            .due("cross(0)", NOT_POSSIBLE).due("cross(2)", NOT_POSSIBLE).due("cross(1)", 0);
    }

    private void lockersAndSeals() {
        terms("There are at most 5 lockers, numbered from 0; a locker is sealed or open, or its seal is torn.")
            .due("lockerOf(0, 8)", INVALID).due("locker()", 0).times(3, "locker()").due("lockerOf(4, 8)", INVALID)
            .due("locker()", 4).due("locker()", LIMIT).due("lockerOf(4, 8)", 1).due("lockerOf(5, 8)", INVALID)
            .after("tear(4)").due("lockerOf(4, 8)", 2).after(TO_SEA).due("lockerOf(4, 8)", 0);
        fewSeals(terms("There are seals with numbers from 1 on, in the order in which they are used, at most 200."), 0)
            .due("seal(0, 0)", INVALID).due("lockerOf(0, 9)", 200).due("seal(200, 2)", 0).due("seal(201, 0)", INVALID)
            .due("inspect(0)", LIMIT).due("count(4)", 200);
        terms("To seal a locker means that the next seal is put on it.")
            .after("locker()", "locker()", "inspect(0)").due("lockerOf(0, 9)", 3).due("seal(3, 0)", 0)
            .due("seal(3, 2)", 0).after("inspect(1)").due("lockerOf(1, 9)", 4).after("undo()")
            .due("lockerOf(1, 9)", 2).after("inspect(0)").due("lockerOf(0, 9)", 4).due("seal(4, 0)", 0);
        terms("When the ship crosses from the open sea to the waters, each locker that is open is sealed, the lowest "
            + "first; when it crosses to the open sea, all seals on lockers are taken off, and all lockers are open "
            + "(torn ones, too).")
            .times(5, "locker()").after("tear(2)").due("cross(1)", 0).after("tear(4)").due("cross(0)", 3)
            .due("lockerOf(0, 8)", 0).due("lockerOf(2, 8)", 0).due("lockerOf(4, 8)", 0).due("seal(1, 2)", 1)
            .due("seal(3, 2)", 3).due("seal(5, 2)", 3).after("pass(2)").due("cross(1)", 5).due("lockerOf(0, 9)", 6)
            .due("lockerOf(2, 9)", 8).due("lockerOf(4, 9)", 10).due("seal(6, 1)", 2).due("seal(10, 0)", 4)
            .due("lockerOf(4, 8)", 1).due("seal(10, 2)", 0);
        terms("A new locker, which can be added in port alone, is sealed.")
            .due("locker()", 0).due("lockerOf(0, 8)", 1).after("cross(1)").due("locker()", NOT_POSSIBLE)
            .after("cross(0)").due("locker()", NOT_POSSIBLE).after(TO_PORT).due("locker()", 1)
            .due("lockerOf(1, 8)", 1).due("lockerOf(1, 9)", 3);
        // Promise 16 names the error: LIMIT_REACHED.
        fewSeals(terms("If there are too few seals for a crossing, it is not possible."), 0)
            .after(TO_SEA).due("cross(1)", LIMIT).due("count(5)", 0).due("lockerOf(0, 8)", 0);
        terms("A seal is on a locker, was taken off at sea, was taken off by an officer, or is torn.")
            .after("locker()").due("seal(1, 2)", 0).after("inspect(0)").due("seal(1, 2)", 2).after(TO_SEA)
            .due("seal(2, 2)", 1).after("cross(1)", "tear(0)").due("seal(3, 2)", 3).after("cross(2)", "inspect(0)")
            .due("seal(3, 2)", 3).due("seal(4, 2)", 0).due("seal(1, 2)", 2).due("seal(2, 2)", 1);
    }

    private void goodsAndBonds() {
        terms("There are at most 8 goods, numbered from 0, each with a duty (1 to 1000000) of a unit.")
            .beside("good(#)", 1, 1000000).due("good(1)", 0).due("good(1000000)", 1).times(5, "good(3)")
            .due("good(8)", 7).due("good(9)", LIMIT).due("duty(7, 1)", 8).due("duty(8, 1)", INVALID);
        Run run = terms("A locker has units of each good.").after("locker()", "locker()").times(8, "good(1)");
        for (int good = 0; good < 8; good++) {
            run.due("lockerOf(1, " + good + ")", 0).after("load(1, " + good + ", " + (good + 1) + ")");
        }
        for (int good = 0; good < 8; good++) {
            run.due("lockerOf(1, " + good + ")", good + 1).due("lockerOf(0, " + good + ")", 0);
        }
        run.due("lockerOf(1, 10)", 36).after("bring(1, 7, 8)").due("lockerOf(1, 10)", 28).due("lockerOf(1, 7)", 0);
        terms("In port units of a good can be loaded into a locker under a bond.")
            .after(EMPTY).due("load(1, 1, 5)", 0).after("cross(1)").due("load(1, 1, 5)", NOT_POSSIBLE)
            .after("cross(0)").due("load(1, 1, 5)", NOT_POSSIBLE).after(TO_PORT).due("load(1, 1, 5)", 1);
        terms("Bonds are numbered from 0, at most 60 in all.")
            .after(EMPTY).due("load(0, 0, 1)", 0).times(58, "load(0, 0, 1)").due("load(0, 0, 1)", 59)
            .due("load(0, 0, 1)", LIMIT).after("pass(31)").due("count(3)", 0).due("load(0, 0, 1)", LIMIT)
            .due("bond(59, 1)", 1).due("bond(60, 1)", INVALID);
        terms("A bond has the good, the units, the duty of a unit as it was then, and the day on which it is due, and "
            + "its amount is the units times this duty.")
            .after(EMPTY).after("pass(9)", "load(0, 0, 12)", "duty(0, 1)", "set(1, 1)").due("bond(0, 0)", 0)
            .due("bond(0, 1)", 12).due("bond(0, 3)", 100).due("bond(0, 5)", 39).due("bond(0, 4)", 1200);
        terms("All amounts that are held by bonds and all that were released are at most 2147483647 together; a bond "
            + "by which they would be more is refused.")
            .after(MOST_CENTS).due("load(0, 2, 1)", LIMIT).after("undo()").due("load(0, 2, 648)", LIMIT)
            .due("load(0, 2, 646)", 2).due("load(0, 2, 2)", LIMIT).due("load(0, 2, 1)", 3).due("cents(1)", MOST)
            .after("bring(0, 0, 2147)").due("cents(3)", 2147000000).due("cents(1)", 483647)
            .due("load(0, 2, 1)", LIMIT).after("pass(31)").due("cents(1)", 0).due("load(0, 2, 1)", LIMIT);
    }

    private void releases() {
        terms("To release units of a good for a reason means: they are taken from the bonds of this good that have "
            + "units left, of that which is due first, of several the lowest number, then of the next one, and so on; "
            + "the amount of each is less by the units taken times its duty, and what was released for the reason is "
            + "more by this.")
            .after("locker()", "good(100)", "load(0, 0, 10)", "set(1, 5)", "duty(0, 20)", "load(0, 0, 3)")
            .after("duty(0, 1)", "load(0, 0, 4)", "good(9)", "set(1, 1)", "load(0, 1, 2)")
            .due("bring(0, 0, 1)", 20).due("bond(1, 2)", 2).due("bond(1, 4)", 40).due("cents(3)", 20)
            .due("bring(0, 0, 2)", 40).due("bond(1, 2)", 0).due("bond(2, 2)", 4).due("nextBond(0)", 2)
            .due("bring(0, 0, 5)", 104).due("bond(2, 2)", 0).due("bond(0, 2)", 9).due("bond(0, 4)", 900)
            .due("bring(0, 0, 9)", 900).due("nextBond(0)", NOT_FOUND).due("bond(3, 2)", 2).due("cents(3)", 1064)
            .due("cents(1)", 18).due("account(0, 4)", 17);
        terms("The reasons are 0 used, 1 returned, 2 broken, 3 taxed.")
            .after(LOADED).due("bring(0, 0, 1)", 100).after(TO_SEA).due("use(0, 0, 2)", 200)
            .due("smash(0, 0, 3, 1)", 300).due("smash(0, 0, 4, 0)", 0).after(TO_PORT).due("inspect(0)", 400)
            .due("account(0, 3)", 2).due("account(0, 4)", 1).due("account(0, 5)", 3).due("account(0, 6)", 4)
            .due("cents(2)", 200).due("cents(3)", 100).due("cents(4)", 300).due("cents(5)", 400)
            .due("bond(0, 2)", 0).due("bond(1, 2)", 20);
    }

    private void whatBecomesOfGoods() {
        terms("Units can be used from a locker on the open sea alone.")
            .after(LOADED).due("use(0, 0, 1)", NOT_POSSIBLE).after("cross(1)").due("use(0, 0, 1)", NOT_POSSIBLE)
            .after("cross(0)").due("use(0, 0, 1)", 100).after("cross(1)").due("use(0, 0, 1)", NOT_POSSIBLE);
        terms("They can be returned in port alone: an officer takes the seal off (if there is one on it), and then the "
            + "locker is sealed.")
            .after(LOADED).due("bring(0, 0, 1)", 100).due("seal(5, 2)", 2).due("lockerOf(0, 9)", 6)
            .due("seal(6, 2)", 0).after("cross(1)").due("bring(0, 0, 1)", NOT_POSSIBLE).after("cross(0)")
            .due("bring(0, 0, 1)", NOT_POSSIBLE);
        terms("On the open sea units of a locker can be broken before witnesses (1 to 9): they are released; without a "
            + "witness they are missing: they are in no locker any more, but their bonds are held.")
            .after(LOADED).after(TO_SEA).due("smash(0, 0, 1, 1)", 100).due("smash(0, 0, 1, 9)", 100)
            .due("smash(0, 0, 1, 0)", 0).due("lockerOf(0, 0)", 7).due("missing(0, 0)", 1).due("account(0, 5)", 2)
            .due("account(0, 1)", 27).due("bond(0, 2)", 8).due("cents(1)", 3010).due("smash(0, 0, 1, 10)", INVALID)
            .due("smash(0, 0, 1, -1)", INVALID);
        terms("In waters or port nothing can be broken but the seal of a locker: it is torn.")
            .after(LOADED).due("smash(0, 0, 1, 0)", NOT_POSSIBLE).due("smash(0, 0, 1, 1)", NOT_POSSIBLE)
            .due("tear(0)", 5).due("lockerOf(0, 8)", 2).due("seal(5, 2)", 3).after("cross(1)")
            .due("smash(0, 0, 1, 0)", NOT_POSSIBLE).due("smash(0, 0, 1, 1)", NOT_POSSIBLE).due("tear(1)", 4)
            .after("cross(0)").due("tear(0)", NOT_POSSIBLE).due("tear(1)", NOT_POSSIBLE).due("smash(0, 0, 1, 0)", 0);
    }

    private void counting() {
        terms("In port an officer can count a locker: the seal is taken off (if there is one on it);")
            .after(LOADED).due("inspect(0)", 0).due("seal(5, 2)", 2).due("lockerOf(0, 9)", 6).after("cross(1)")
            .due("inspect(0)", NOT_POSSIBLE).after("cross(0)").due("inspect(0)", NOT_POSSIBLE);
        terms("if it is torn instead, the fine is to be paid (the setting 0 tells how much).")
            .after("locker()").due("inspect(0)", 0).after("tear(0)", "set(0, 0)").due("inspect(0)", 0)
            .due("cents(6)", 0).after("tear(0)", "set(0, 100000)").due("inspect(0)", 100000).due("cents(6)", 100000)
            .due("seal(3, 2)", 3).due("inspect(0)", 0).due("seal(4, 2)", 2).due("cents(6)", 100000);
        terms("All units that are missing from this locker are taxed: they are released for the reason 3. Then the "
            + "locker is sealed.")
            .after(LOADED).after(TO_SEA).after("smash(0, 0, 4, 0)", "smash(1, 0, 6, 0)", "smash(0, 1, 30, 0)")
            .after(TO_PORT).due("inspect(0)", 610).due("missing(0, 0)", 0).due("missing(0, 1)", 0)
            .due("missing(1, 0)", 6).due("account(0, 6)", 4).due("account(1, 6)", 30).due("lockerOf(0, 8)", 1)
            .due("lockerOf(0, 9)", 8).due("lockerOf(0, 0)", 6);
    }

    private void daysThatGoBy() {
        String passing = "When a day goes by, the day becomes greater by 1; then each bond that is due on the day "
            + "before this one or earlier and has units left runs out, that which is due first ahead, of several the "
            + "lowest: its units left are taxed.";
        terms(passing).after(LOADED).due("pass(30)", 0).due("count(6)", 30).due("count(3)", 3).due("pass(1)", 3210)
            .due("count(6)", 31).due("count(3)", 0).due("cents(5)", 3210).due("account(0, 6)", 30).due("pass(1)", 0);
        terms(passing).after(LOADED).due("pass(31)", 3210).due("undo()", 3).due("pass(29)", 0).due("pass(2)", 3210);
        terms(passing).after(LOADED).after("bring(0, 0, 10)", "bring(0, 1, 29)").due("pass(31)", 2007)
            .due("account(0, 6)", 20).due("account(1, 6)", 1).due("bond(0, 2)", 0);
        String taking = "These units are taken, good by good, from the missing ones first (of the lowest locker "
            + "first), then from the units in lockers (of the lowest locker first); whether lockers are sealed does "
            + "not matter.";
        withMissing(terms(taking), 4).due("pass(1)", 400).due("missing(1, 0)", 0).due("missing(2, 0)", 6)
            .due("lockerOf(0, 0)", 10).due("lockerOf(1, 0)", 6).due("lockerOf(2, 0)", 8);
        withMissing(terms(taking), 10).due("pass(1)", 1000).due("missing(1, 0)", 0).due("missing(2, 0)", 0)
            .due("lockerOf(0, 0)", 10).due("lockerOf(1, 0)", 6).due("lockerOf(2, 0)", 14);
        withMissing(terms(taking), 11).due("pass(1)", 1100).due("missing(2, 0)", 0).due("lockerOf(0, 0)", 9)
            .due("lockerOf(1, 0)", 6).due("lockerOf(2, 0)", 15);
        withMissing(terms(taking), 27).after("cross(1)", "tear(0)", "tear(1)").due("pass(1)", 2700)
            .due("missing(2, 0)", 0).due("lockerOf(0, 0)", 0).due("lockerOf(1, 0)", 0).due("lockerOf(2, 0)", 30)
            .due("lockerOf(0, 8)", 2).due("lockerOf(2, 8)", 1).due("lockerOf(0, 1)", 3).due("account(0, 6)", 27);
    }

    /**
     * On the open sea, on the day 5: 10 units of good 0 in each of three lockers and those told in the locker 2 under
     * a bond that is due today; 4 and 6 units are missing from the lockers 1 and 2.
     */
    private static Run withMissing(Run run, int units) {
        return run.times(3, "locker()").after("good(100)", "good(7)", "load(0, 0, 10)", "load(1, 0, 10)")
            .after("load(2, 0, 10)", "load(0, 1, 3)", "set(1, 5)", "load(2, 0, " + units + ")").after(TO_SEA)
            .after("smash(1, 0, 4, 0)", "smash(2, 0, 6, 0)").due("pass(5)", 0);
    }

    private void settings() {
        terms("The settings are (in parentheses: range; first value): 0 the fine (0 to 100000; 5000), 1 the days of a "
            + "bond (1 to 99; 30): a bond is due as many days after the day on which it is made.")
            .due("count(20)", 5000).due("count(21)", 30).beside("set(0, #)", 0, 100000).beside("set(1, #)", 1, 99)
            .due("set(0, 0)", 5000).due("set(0, 100000)", 0).after(EMPTY).after("pass(4)", "load(0, 0, 1)")
            .due("bond(0, 5)", 34).due("set(1, 1)", 30).after("load(0, 0, 1)").due("bond(1, 5)", 5)
            .due("set(1, 99)", 1).after("load(0, 0, 1)").due("bond(2, 5)", 103).due("bond(0, 5)", 34);
    }

    /** The history is emptied by undoing all its states, so that each change can be seen to make one. */
    private static Run withoutHistory(Run run) {
        return run.times(4, "pass(1)").times(4, "undo()").due("count(9)", 0);
    }

    /** One state is in the history; the next state that is recorded is none that was recorded before. */
    private static Run withOneState(Run run) {
        return withoutHistory(run).after("set(0, 4321)").due("count(9)", 1);
    }

    private void changes() {
        String sentence = "The changes are the calls of locker, good, duty, load, use, bring, smash, tear, inspect, "
            + "cross, pass, set and play that return no error.";
        String[] changes = {"locker()", "good(1)", "duty(0, 100)", "duty(0, 9)", "load(0, 0, 1)", "bring(0, 0, 1)",
            "tear(0)", "inspect(0)", "inspect(1)", "cross(1)", "pass(1)", "pass(60)", "set(0, 4321)", "set(0, 1)",
            "set(1, 30)", "set(1, 1)", "play()"};
        int[] answers = {2, 2, 100, 100, 3, 100, 5, 0, 4321, 0, 0, 3210, 4321, 4321, 30, 30, 0};
        for (int i = 0; i < changes.length; i++) {
            withOneState(terms(sentence).after(LOADED).after("tear(1)")).undone(changes[i], answers[i]);
        }
        String[] atSea = {"use(0, 0, 1)", "smash(0, 0, 1, 0)", "smash(0, 0, 1, 1)", "cross(1)", "pass(31)", "good(1)",
            "duty(1, 1)", "set(1, 99)"};
        int[] answersAtSea = {100, 0, 100, 2, 3210, 2, 7, 30};
        for (int i = 0; i < atSea.length; i++) {
            withOneState(terms(sentence).after(LOADED).after(TO_SEA)).undone(atSea[i], answersAtSea[i]);
        }
        withOneState(terms(sentence).after(LOADED)).types("t0;c0;z1;z0;u0,0,1;b0,0,1,1;b0,0,1,0;d60;")
            .undone("play()", 8).due("count(10)", 41);
        withoutHistory(terms(sentence).after(LOADED)).due("locker()", 2).due("good(1)", 2).due("duty(2, 2)", 1)
            .due("load(2, 2, 3)", 3).due("count(9)", 4).due("undo()", 3).due("undo()", 2).due("undo()", 1)
            .due("undo()", 0).due("count(0)", 2).due("count(1)", 2);
        withoutHistory(terms(sentence).after(LOADED)).types("d1;x").due("count(9)", 0).after("clearText()")
            .due("undo()", NOT_POSSIBLE).due("toPay()", 0).due("runsOut()", 31).due("worth(0, 1)", 100)
            .due("load(0, 0, 0)", INVALID).due("play()", 0).due("count(9)", 1);
    }

    /** Where the greatest numbers stand: five lockers, eight goods, sixty bonds, two hundred seals. */
    private void changesOfTheLast() {
        String sentence = "each change records everything before it but the text";
        String[] changes = {"use(4, 7, 1)", "smash(4, 7, 1, 0)", "smash(4, 7, 1, 9)", "use(0, 3, 1)", "cross(1)"};
        int[] answers = {8, 0, 8, 4, 5};
        for (int i = 0; i < changes.length; i++) {
            withOneState(fiveTimesEight(terms(sentence)).after(TO_SEA)).undone(changes[i], answers[i]);
        }
        withOneState(fiveTimesEight(terms(sentence))).undone("bring(4, 7, 2)", 16).undone("duty(7, 1)", 8)
            .undone("pass(60)", 360).undone("tear(4)", 45);
        withOneState(fiveTimesEight(terms(sentence)).after(TO_SEA).after("smash(4, 7, 2, 0)").after(TO_PORT))
            .undone("inspect(4)", 16).undone("pass(60)", 360);
        withOneState(terms(sentence).after(EMPTY).times(59, "load(0, 0, 1)")).undone("load(1, 1, 9)", 59)
            .due("load(1, 0, 2)", 59).undone("bring(1, 0, 1)", 100).undone("bring(0, 0, 59)", 5900);
        withOneState(terms(sentence).after(EMPTY).times(59, "load(0, 0, 1)").after("load(1, 1, 9)"))
            .undone("bring(1, 1, 4)", 28).undone("pass(31)", 5963).undone("play()", 0).due("bond(59, 2)", 9);
        fewSeals(terms(sentence), 2).after("pass(3)", "locker()", "pass(4)", "inspect(1)").times(2, "undo()")
            .after("pass(1)", "inspect(0)").due("seal(200, 0)", 0).due("seal(200, 1)", 4).due("seal(199, 0)", 1)
            .after("undo()").undone("tear(1)", 199).undone("inspect(1)", 0).undone("tear(0)", 198);
        withoutHistory(fewSeals(terms(sentence), 1)).after("pass(3)", "locker()", "undo()", "undo()")
            .after("pass(1)", "locker()").due("seal(200, 1)", 1).due("seal(200, 0)", 1)
            .undone("tear(1)", 200).undone("cross(1)", 0);
    }

    /** Units of each of eight goods in each of five lockers, all bonds due on the day 30. */
    private static Run fiveTimesEight(Run run) {
        run.times(5, "locker()");
        for (int good = 0; good < 8; good++) {
            run.after("good(" + (good + 1) + ")");
            for (int locker = 0; locker < 5; locker++) {
                run.after("load(" + locker + ", " + good + ", 2)");
            }
        }
        return run.due("count(3)", 40);
    }

    private void countingOfTheLast() {
        Run run = fiveTimesEight(terms("All units that are missing from this locker are taxed:")).after(TO_SEA);
        for (int locker = 0; locker < 5; locker++) {
            run.after("smash(" + locker + ", 0, 2, 0)", "smash(" + locker + ", 7, 1, 0)");
        }
        run.due("toPay()", 50).after(TO_PORT).due("inspect(0)", 10).due("missing(1, 0)", 2).due("missing(0, 0)", 0)
            .due("missing(0, 7)", 0).due("missing(1, 7)", 1).due("inspect(3)", 10).due("missing(4, 0)", 2)
            .due("inspect(4)", 10).due("missing(4, 7)", 0).due("account(0, 2)", 4).due("account(7, 2)", 2)
            .due("account(7, 1)", 5).due("account(7, 6)", 3).due("lockerOf(4, 10)", 13).due("toPay()", 20);
    }

    private void history() {
        String sentence = "A history of at most 4 states is kept: each change records everything before it but the "
            + "text, and if there are 5 states then, the oldest one is dropped.";
        terms(sentence).due("pass(1)", 0).due("count(9)", 1).after("pass(1)", "pass(1)").due("count(9)", 3)
            .after("pass(1)").due("count(9)", 4).after("pass(1)").due("count(9)", 4).due("undo()", 3)
            .due("count(6)", 4).due("undo()", 2).due("undo()", 1).due("undo()", 0).due("count(6)", 1)
            .due("undo()", NOT_POSSIBLE).due("count(6)", 1);
        terms(sentence).times(23, "pass(1)").due("count(9)", 4).times(4, "undo()").due("count(6)", 19)
            .times(2, "pass(1)").due("undo()", 1).times(4, "pass(2)").due("count(9)", 4).due("count(6)", 28)
            .times(3, "undo()").due("count(6)", 22).due("undo()", 0).due("count(6)", 20)
            .due("undo()", NOT_POSSIBLE);
        terms(sentence).types("d1;").after("pass(1)").types("d2;d2;").due("undo()", 0).due("count(10)", 6)
            .due("play()", 2).after("clearText()").due("undo()", 0).due("count(10)", 0).due("count(6)", 0);
        fewSeals(terms(sentence), 4).after(TO_SEA).due("cross(1)", 1).due("cross(0)", 1).due("undo()", 3)
            .due("undo()", 2).due("undo()", 1).due("undo()", 0).due("count(4)", 196).due("lockerOf(0, 9)", 196);
    }

    private void invalidFirst() {
        String sentence = "If several errors apply to a call, INVALID_ARGUMENT is returned rather than NOT_POSSIBLE,";
        terms(sentence).after(LOADED).after("tear(0)").due("load(0, 0, 0)", INVALID).due("load(0, 2, 1)", INVALID)
            .due("bring(0, 0, 10000)", INVALID).due("bring(0, 2, 1)", INVALID).due("use(0, 0, 0)", INVALID)
            .due("use(2, 0, 1)", INVALID).due("smash(0, 0, 1, 10)", INVALID).due("smash(0, 2, 1, 1)", INVALID)
            .due("tear(2)", INVALID);
        terms(sentence).after(LOADED).after(TO_SEA).due("load(2, 0, 1)", INVALID).due("load(0, 0, 10000)", INVALID)
            .due("bring(0, 0, 0)", INVALID).due("bring(-1, 0, 1)", INVALID).due("tear(2)", INVALID)
            .due("inspect(2)", INVALID).due("inspect(-1)", INVALID).due("cross(3)", INVALID)
            .due("use(1, 1, 10000)", INVALID).due("smash(1, 1, 1, -1)", INVALID);
        terms(sentence).after("good(1)").times(7, "good(1)").due("good(0)", INVALID).due("good(1000001)", INVALID)
            .types("d".repeat(80)).due("type(31)", INVALID).due("type(127)", INVALID);
        terms(sentence).after(EMPTY).times(60, "load(0, 0, 1)").due("load(0, 0, 0)", INVALID)
            .due("load(2, 0, 1)", INVALID).due("load(0, 0, 1)", LIMIT);
        fewSeals(terms(sentence), 0).due("load(0, 1, 1)", INVALID).due("bring(0, 0, 0)", INVALID)
            .due("inspect(1)", INVALID).after(TO_SEA).due("cross(-1)", INVALID).due("cross(3)", INVALID);
        late(terms(sentence)).after("pass(20)").due("pass(0)", INVALID).due("pass(61)", INVALID).due("pass(60)", LIMIT);
        terms(sentence).after("locker()", "good(1)").due("lockerOf(1, 9)", INVALID).due("nextBond(1)", INVALID)
            .due("worth(1, 1)", INVALID).due("worth(0, 0)", INVALID).due("worth(0, 100000)", INVALID)
            .due("fault(3)", INVALID).due("nextBond(0)", NOT_FOUND).due("worth(0, 1)", NOT_FOUND)
            .due("fault(2)", NOT_FOUND);
    }

    private void notPossibleFirst() {
        // No call has both a limit and something that can be not found.
        String sentence = "NOT_POSSIBLE rather than LIMIT_REACHED, and LIMIT_REACHED rather than NOT_FOUND.";
        terms(sentence).times(5, "locker()").due("locker()", LIMIT).after("cross(1)").due("locker()", NOT_POSSIBLE);
        fewSeals(terms(sentence), 0).due("locker()", LIMIT).after("tear(0)").due("load(0, 0, 1)", NOT_POSSIBLE)
            .due("bring(0, 0, 1)", NOT_POSSIBLE).due("inspect(0)", LIMIT).after("cross(1)")
            .due("locker()", NOT_POSSIBLE).due("load(0, 0, 1)", NOT_POSSIBLE).due("inspect(0)", NOT_POSSIBLE)
            .after("cross(0)").due("cross(2)", NOT_POSSIBLE).due("cross(0)", NOT_POSSIBLE).due("cross(1)", LIMIT)
            .due("inspect(0)", NOT_POSSIBLE);
        fewSeals(terms(sentence), 1).after("load(0, 0, 5)").due("bring(0, 0, 6)", NOT_POSSIBLE)
            .due("bring(0, 0, 5)", LIMIT).after("cross(1)").due("bring(0, 0, 5)", NOT_POSSIBLE);
        terms(sentence).after(EMPTY).times(60, "load(0, 0, 1)").after("tear(0)").due("load(0, 0, 1)", NOT_POSSIBLE)
            .due("load(1, 0, 1)", LIMIT).after("cross(1)").due("load(1, 0, 1)", NOT_POSSIBLE);
        terms(sentence).after(MOST_CENTS).after(TO_SEA)
            .after("smash(0, 0, 2147, 0)", "smash(0, 1, 483, 0)", "smash(0, 2, 647, 0)", "cross(1)", "tear(0)")
            .due("toPay()", LIMIT).due("inspect(0)", NOT_POSSIBLE).due("load(0, 0, 9999)", NOT_POSSIBLE)
            .after("cross(2)").due("inspect(0)", LIMIT).due("load(0, 0, 9999)", NOT_POSSIBLE);
    }

    private void errorsChangeNothing() {
        String sentence = "A call that returns an error changes nothing.";
        terms(sentence).after(LOADED).after("good(1)").types("d1;t0;c9;").after("tear(1)").due("good(0)", INVALID)
            .due("duty(0, 0)", INVALID).due("duty(3, 1)", INVALID).due("load(0, 0, 0)", INVALID)
            .due("load(1, 0, 1)", NOT_POSSIBLE).due("use(0, 0, 1)", NOT_POSSIBLE).due("bring(0, 0, 11)", NOT_POSSIBLE)
            .due("bring(1, 0, 1)", NOT_POSSIBLE).due("smash(0, 0, 1, 0)", NOT_POSSIBLE).due("tear(1)", NOT_POSSIBLE)
            .due("inspect(2)", INVALID).due("cross(0)", NOT_POSSIBLE).due("cross(2)", NOT_POSSIBLE)
            .due("pass(61)", INVALID).due("set(0, -1)", INVALID).due("set(1, 100)", INVALID).due("set(2, 1)", INVALID)
            .due("type(31)", INVALID).due("fault(3)", INVALID).due("play()", NOT_POSSIBLE);
        terms(sentence).after(LOADED).types("u0,0,11;").after(TO_SEA).due("locker()", NOT_POSSIBLE)
            .due("load(0, 0, 1)", NOT_POSSIBLE).due("use(0, 0, 11)", NOT_POSSIBLE).due("bring(0, 0, 1)", NOT_POSSIBLE)
            .due("smash(0, 0, 11, 0)", NOT_POSSIBLE).due("smash(0, 0, 11, 1)", NOT_POSSIBLE)
            .due("tear(0)", NOT_POSSIBLE).due("inspect(0)", NOT_POSSIBLE).due("cross(2)", NOT_POSSIBLE)
            .due("play()", NOT_POSSIBLE);
    }

    private void nothingOfThatNumber() {
        String sentence = "If there is no locker, good, bond or seal with a certain number, this is INVALID_ARGUMENT.";
        Run run = terms(sentence);
        String[] calls = {"duty(0, 1)", "load(0, 0, 1)", "lockerOf(0, 8)", "lockerOf(0, 0)", "missing(0, 0)",
            "seal(1, 0)", "bond(0, 0)", "nextBond(0)", "use(0, 0, 1)", "bring(0, 0, 1)", "smash(0, 0, 1, 1)",
            "tear(0)", "inspect(0)", "account(0, 0)", "worth(0, 1)"};
        for (String call : calls) {
            run.due(call, INVALID);
        }
        run.after("locker()").due("load(0, 0, 1)", INVALID).due("missing(0, 0)", INVALID).due("use(0, 0, 1)", INVALID)
            .due("bring(0, 0, 1)", INVALID).due("smash(0, 0, 1, 1)", INVALID).due("lockerOf(0, 0)", INVALID)
            .due("lockerOf(1, 10)", INVALID).due("seal(2, 0)", INVALID).due("inspect(1)", INVALID)
            .due("tear(1)", INVALID).after("good(1)").due("missing(0, 1)", INVALID).due("missing(1, 0)", INVALID)
            .due("load(0, 1, 1)", INVALID).due("load(1, 0, 1)", INVALID).due("account(1, 0)", INVALID)
            .after("load(0, 0, 1)").due("bond(1, 0)", INVALID).due("seal(3, 0)", INVALID);
        run.after(TO_SEA).due("use(1, 0, 1)", INVALID).due("use(0, 1, 1)", INVALID).due("smash(1, 0, 1, 0)", INVALID)
            .due("smash(0, 1, 1, 0)", INVALID).due("use(0, 0, 1)", 1);
    }

    private void constants() {
        terms("The constants: `INVALID_ARGUMENT = -1`: An argument is out of its range, or there is no such locker, "
            + "good, bond or seal.")
            .due("good(0)", SealedStores.INVALID_ARGUMENT).due("tear(0)", -1);
        terms("`NOT_POSSIBLE = -2`: The call is not possible in the present state.")
            .due("undo()", SealedStores.NOT_POSSIBLE).due("cross(0)", -2);
        terms("`LIMIT_REACHED = -3`: A fixed limit has been reached.")
            .times(8, "good(1)").due("good(1)", SealedStores.LIMIT_REACHED).times(5, "locker()").due("locker()", -3);
        terms("`NOT_FOUND = -4`: There is no such value.")
            .due("runsOut()", SealedStores.NOT_FOUND).due("fault(0)", -4);
    }
}
