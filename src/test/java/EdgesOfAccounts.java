/** The boundary cases of the promises 19 to 25: accounts, the history, and what would be. */
final class EdgesOfAccounts extends Edges {
    EdgesOfAccounts(Checks checks, Document document) {
        super(checks, document);
    }

    @Override
    void all() {
        accountPromise();
        centsPromise();
        countPromise();
        countsOfEverything();
        undoPromise();
        worthPromise();
        toPayPromise();
        runsOutPromise();
    }

    private void accountPromise() {
        promise(19, "Returns an account of a good, in units.").after(LOADED).due("account(0, 0)", 30);
        promise(19, "`good`: number of the good")
            .beside("account(#, 0)", 0, -1).after("good(1)").beside("account(#, 0)", 0, 0).due("account(0, 0)", 0)
            .times(7, "good(1)").beside("account(#, 6)", 0, 7).due("account(7, 6)", 0);
        Run run = promise(19, "`what`: 0: loaded; 1: in lockers; 2: missing; 3 to 6: released for the reasons 0 to 3")
            .after(LOADED);
        for (int what = 2; what <= 6; what++) {
            run.due("account(0, " + what + ")", 0);
        }
        run.after("bring(0, 0, 1)").after(TO_SEA)
            .after("use(1, 0, 2)", "smash(1, 0, 3, 4)", "smash(0, 0, 4, 0)", "smash(1, 0, 5, 0)")
            .after(TO_PORT).after("inspect(0)");
        int[] due = {30, 15, 5, 2, 1, 3, 4};
        for (int what = 0; what <= 6; what++) {
            run.due("account(0, " + what + ")", due[what]);
            run.due("account(1, " + what + ")", what < 2 ? 30 : 0);
        }
        run.after("pass(31)").due("account(0, 0)", 30).due("account(0, 1)", 0).due("account(0, 2)", 0)
            .due("account(0, 6)", 24).due("account(1, 6)", 30);
        promise(19, "0: loaded; 1: in lockers;")
            .times(2, "locker()").after("good(1)").times(10, "load(0, 0, 9999)").times(10, "load(1, 0, 9999)")
            .due("account(0, 0)", 199980).due("account(0, 1)", 199980);
        promise(19, "Returns the units; INVALID_ARGUMENT if an argument is out of range.")
            .after(LOADED).beside("account(0, #)", 0, 6).beside("account(2, #)", 0, 6).due("account(2, 0)", INVALID);
    }

    private void centsPromise() {
        Run run = promise(20, "`what`: 0: all amounts of bonds as they were made; 1: what is held by bonds; 2 to 5: "
            + "what was released for the reasons 0 to 3; 6: the fines so far").after(LOADED);
        run.due("cents(0)", 3210).due("cents(1)", 3210).after("bring(0, 0, 1)").after(TO_SEA)
            .after("use(1, 0, 2)", "smash(1, 0, 3, 4)", "smash(0, 0, 4, 0)").after(TO_PORT)
            .after("tear(0)", "inspect(0)");
        int[] due = {3210, 2210, 200, 100, 300, 400, 5000};
        for (int what = 0; what <= 6; what++) {
            run.due("cents(" + what + ")", due[what]);
        }
        promise(20, "Returns an account in cents.")
            .after(MOST_CENTS).due("cents(0)", MOST).due("cents(1)", MOST).after(TO_SEA)
            .after("use(0, 0, 2147)", "use(0, 1, 483)", "use(0, 2, 647)").due("cents(0)", MOST).due("cents(1)", 0)
            .due("cents(2)", MOST).due("cents(3)", 0);
        promise(20, "Returns the amount; INVALID_ARGUMENT if what is out of range;")
            .beside("cents(#)", 0, 6).due("cents(0)", 0).due("cents(6)", 0).after(LOADED).beside("cents(#)", 0, 6);
        // No run gets this far: each fine needs a new seal, so 199 of them, of 100000 each, are the most.
        promise(20, "LIMIT_REACHED for 6 if the fines are more than 2147483647.")
            .after("locker()", "set(0, 100000)").times(199, "tear(0)", "inspect(0)").due("cents(6)", 19900000);
    }

    private void countPromise() {
        promise(21, "Returns a number.").due("count(5)", 2);
        promise(21, "Returns the number; INVALID_ARGUMENT if what is out of range.")
            .beside("count(#)", 0, 10).beside("count(#)", 20, 21).due("count(11)", INVALID).due("count(12)", INVALID)
            .due("count(19)", INVALID).due("count(22)", INVALID).due("count(0)", 0).due("count(10)", 0);
        Run run = promise(21, "`what`: 0: lockers; 1: goods; 2: bonds; 3: those that have units left; 4: seals "
            + "that were used; 5: the zone; 6: the day; 7: lockers that are sealed; 8: torn seals on lockers now; 9: "
            + "states in the history; 10: the length of the text; 20, 21: the settings 0, 1").after(LOADED);
        run.after("good(1)", "bring(0, 0, 10)", "tear(1)", "set(0, 12)", "set(1, 34)", "pass(5)").types("abcdefg");
        int[] due = {2, 3, 3, 2, 6, 2, 5, 1, 1, 4, 7};
        for (int what = 0; what <= 10; what++) {
            run.due("count(" + what + ")", due[what]);
        }
        run.due("count(20)", 12).due("count(21)", 34);
    }

    private void countsOfEverything() {
        promise(21, "0: lockers;").times(5, "locker()").due("locker()", LIMIT).due("count(0)", 5).due("count(7)", 5);
        promise(21, "1: goods;").times(8, "good(1)").due("good(1)", LIMIT).due("count(1)", 8);
        promise(21, "2: bonds; 3: those that have units left;")
            .after(EMPTY).times(60, "load(0, 0, 1)").due("count(2)", 60).due("count(3)", 60)
            .after("bring(0, 0, 59)").due("count(2)", 60).due("count(3)", 1).after("bring(0, 0, 1)")
            .due("count(3)", 0).due("count(2)", 60);
        promise(21, "3: those that have units left;")
            .after(LOADED).after("bring(0, 0, 9)").due("count(3)", 3).after("bring(0, 0, 1)").due("count(3)", 2)
            .after("pass(30)").due("count(3)", 2).after("pass(1)").due("count(3)", 0);
        fewSeals(promise(21, "4: seals that were used;"), 0).due("count(4)", 200).due("inspect(0)", LIMIT)
            .due("count(4)", 200).due("undo()", 3).due("count(4)", 199);
        promise(21, "7: lockers that are sealed; 8: torn seals on lockers now;")
            .times(5, "locker()").after("tear(0)", "tear(1)", "tear(2)", "tear(3)").due("count(7)", 1)
            .due("count(8)", 4).after("tear(4)").due("count(7)", 0).due("count(8)", 5).after("inspect(0)")
            .due("count(7)", 1).due("count(8)", 4).after(TO_SEA).due("count(7)", 0).due("count(8)", 0)
            .after("cross(1)").due("count(7)", 5).due("count(8)", 0);
        promise(21, "10: the length of the text;")
            .types("d".repeat(80)).due("count(10)", 80).due("type(49)", LIMIT).due("count(10)", 80)
            .after("clearText()").due("count(10)", 0);
    }

    private void undoPromise() {
        promise(22, "Restores the latest state of the history, which is removed from it.")
            .after(LOADED).after("pass(1)", "pass(2)").due("count(6)", 3).due("undo()", 3).due("count(6)", 1)
            .due("count(9)", 3).due("undo()", 2).due("count(6)", 0).due("count(9)", 2).due("undo()", 1)
            .due("count(2)", 2).due("lockerOf(0, 1)", 0);
        promise(22, "Returns the number of states that are left in the history;")
            .times(4, "pass(1)").due("count(9)", 4).due("undo()", 3).due("undo()", 2).due("undo()", 1).due("undo()", 0)
            .due("count(6)", 0);
        promise(22, "NOT_POSSIBLE if it is empty.")
            .due("undo()", NOT_POSSIBLE).after("pass(1)").due("undo()", 0).due("undo()", NOT_POSSIBLE)
            .due("count(6)", 0).times(5, "pass(1)").times(4, "undo()").due("undo()", NOT_POSSIBLE).due("count(6)", 1)
            .types("d1;").due("undo()", NOT_POSSIBLE).due("count(10)", 3);
    }

    private void worthPromise() {
        promise(23, "Tells what would be released if units of a good were released now.")
            .after(EMPTY).after("load(0, 0, 10)", "duty(0, 50)", "set(1, 4)", "load(0, 0, 3)", "duty(0, 9)")
            .after("load(1, 0, 2)").due("worth(0, 1)", 50).due("worth(0, 3)", 150).due("worth(0, 4)", 159)
            .due("worth(0, 5)", 168).due("worth(0, 6)", 268).due("worth(0, 15)", 1168).due("bring(0, 0, 6)", 268)
            .due("worth(0, 9)", 900);
        promise(23, "`good`: number of the good")
            .beside("worth(#, 1)", 0, -1).after("good(1)").beside("worth(#, 1)", 0, 0).times(7, "good(1)")
            .beside("worth(#, 1)", 0, 7).after("locker()", "load(0, 7, 1)").due("worth(7, 1)", 1);
        promise(23, "`units`: 1 to 99999")
            .after(EMPTY).times(6, "load(0, 1, 9999)").times(6, "load(1, 1, 9999)").due("worth(1, 1)", 7)
            .due("worth(1, 99999)", 699993).beside("worth(1, #)", 1, 99999);
        promise(23, "Returns the amount; INVALID_ARGUMENT if an argument is out of range;")
            .after(LOADED).beside("worth(0, #)", 1, 99999).due("worth(0, -1)", INVALID).due("worth(2, 0)", INVALID)
            .due("worth(0, 30)", 3000);
        promise(23, "NOT_FOUND if its bonds have fewer units left.")
            .after("good(1)").due("worth(0, 1)", NOT_FOUND).due("worth(0, 99999)", NOT_FOUND).after("locker()")
            .after("load(0, 0, 5)").due("worth(0, 5)", 5).due("worth(0, 6)", NOT_FOUND).after("bring(0, 0, 2)")
            .due("worth(0, 3)", 3).due("worth(0, 4)", NOT_FOUND).after("bring(0, 0, 3)").due("worth(0, 1)", NOT_FOUND);
        promise(23, "NOT_FOUND if its bonds have fewer units left.")
            .after(LOADED).after(TO_SEA).after("smash(0, 0, 10, 0)").due("worth(0, 30)", 3000)
            .due("worth(0, 31)", NOT_FOUND).after("pass(31)").due("worth(0, 1)", NOT_FOUND);
        promise(23, "Returns the amount;")
            .after(EMPTY).times(60, "load(0, 0, 1)").due("worth(0, 60)", 6000).due("worth(0, 61)", NOT_FOUND)
            .due("worth(1, 1)", NOT_FOUND).due("toPay()", 0).due("runsOut()", 31).after(TO_SEA)
            .after("smash(0, 0, 60, 0)").due("toPay()", 6000).due("worth(0, 60)", 6000);
        promise(23, "Returns the amount;")
            .after("locker()", "good(1000000)", "load(0, 0, 2147)", "duty(0, 1000)", "load(0, 0, 483)", "duty(0, 1)")
            .after("load(0, 0, 647)").due("worth(0, 3277)", MOST).due("worth(0, 3276)", MOST - 1)
            .due("worth(0, 3278)", NOT_FOUND);
    }

    private void toPayPromise() {
        promise(24, "Tells what would have to be paid if all lockers were counted now, whatever the zone: all taxes "
            + "and fines (seals that are left do not matter).")
            .due("toPay()", 0).after(LOADED).due("toPay()", 0).after(TO_SEA)
            .after("smash(0, 0, 4, 0)", "smash(1, 0, 6, 0)", "smash(0, 1, 5, 0)").due("toPay()", 1035)
            .after("cross(1)", "tear(0)").due("toPay()", 6035).after("tear(1)", "set(0, 7)").due("toPay()", 1049)
            .after("cross(2)").due("toPay()", 1049).due("inspect(1)", 607).due("toPay()", 442).due("inspect(0)", 442)
            .due("toPay()", 0);
        fewSeals(promise(24, "(seals that are left do not matter)"), 0)
            .after("tear(0)").due("inspect(0)", LIMIT).due("toPay()", 5000);
        promise(24, "all taxes and fines")
            .after(EMPTY).after("load(0, 0, 5)", "duty(0, 1)", "load(1, 0, 5)").after(TO_SEA)
            .after("smash(0, 0, 4, 0)", "smash(1, 0, 4, 0)").due("toPay()", 503).after(TO_PORT).due("inspect(1)", 400)
            .due("toPay()", 103).due("inspect(0)", 103);
        promise(24, "LIMIT_REACHED if it is more than 2147483647.")
            .after(MOST_CENTS).after("locker()").after(TO_SEA)
            .after("smash(0, 0, 2147, 0)", "smash(0, 1, 483, 0)", "smash(0, 2, 647, 0)").due("toPay()", MOST)
            .after("cross(1)").due("toPay()", MOST).after("set(0, 1)", "tear(1)").due("toPay()", LIMIT)
            .after("set(0, 0)").due("toPay()", MOST).after("tear(0)").due("toPay()", MOST)
            .after("set(0, 100000)").due("toPay()", LIMIT);
        promise(24, "Returns the amount;")
            .times(5, "locker()").after("set(0, 100000)").after("tear(0)", "tear(1)", "tear(2)", "tear(3)", "tear(4)")
            .due("toPay()", 500000).after("inspect(3)").due("toPay()", 400000);
    }

    private void runsOutPromise() {
        promise(25, "Tells in how many days the next bond would run out, with nothing else done.")
            .after(EMPTY).after("load(0, 0, 5)").due("runsOut()", 31).after("set(1, 2)", "load(1, 1, 5)")
            .due("runsOut()", 3).after("set(1, 3)", "load(1, 1, 5)").due("runsOut()", 3).due("pass(2)", 0)
            .due("runsOut()", 1).due("pass(1)", 35).due("runsOut()", 1).due("pass(1)", 35).due("runsOut()", 27);
        promise(25, "Returns the days, 1 for the next one;")
            .after(EMPTY).after("set(1, 99)", "load(0, 0, 5)").due("runsOut()", 100).after("pass(60)")
            .due("runsOut()", 40).after("pass(39)").due("runsOut()", 1).due("pass(1)", 500)
            .due("runsOut()", NOT_FOUND).after("set(1, 1)", "load(0, 0, 1)").due("runsOut()", 2);
        promise(25, "NOT_FOUND if no bond has units left.")
            .due("runsOut()", NOT_FOUND).after(EMPTY).due("runsOut()", NOT_FOUND).after("load(0, 0, 5)")
            .after("bring(0, 0, 4)").due("runsOut()", 31).after("bring(0, 0, 1)").due("runsOut()", NOT_FOUND);
        promise(25, "Tells in how many days the next bond would run out")
            .after(LOADED).after(TO_SEA).after("smash(0, 0, 10, 0)", "smash(1, 0, 20, 0)", "use(0, 1, 30)")
            .due("runsOut()", 31);
        late(promise(25, "with nothing else done."))
            .after("locker()", "good(1)", "pass(20)", "load(0, 0, 1)").due("runsOut()", 31).due("pass(1)", LIMIT)
            .due("runsOut()", 31);
    }
}
