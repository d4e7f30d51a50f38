/** The boundary cases of the promises 1 to 10: a new object, lockers, goods, bonds, and looking at them. */
final class EdgesOfStores extends Edges {
    EdgesOfStores(Checks checks, Document document) {
        super(checks, document);
    }

    @Override
    void all() {
        newObject();
        lockerPromise();
        goodPromise();
        dutyPromise();
        loadPromise();
        loadLimits();
        lockerOfPromise();
        missingPromise();
        sealPromise();
        bondPromise();
        nextBondPromise();
    }

    private void newObject() {
        Run run = promise(1, "Creates a ship in port without lockers and goods, on the day 0.")
            .due("count(5)", 2).due("count(6)", 0).due("count(0)", 0).due("count(1)", 0)
            .due("count(2)", 0).due("count(3)", 0).due("count(4)", 0).due("count(7)", 0).due("count(8)", 0)
            .due("count(9)", 0).due("count(10)", 0).due("count(20)", 5000).due("count(21)", 30)
            .due("lockerOf(0, 8)", INVALID).due("missing(0, 0)", INVALID).due("seal(1, 0)", INVALID)
            .due("bond(0, 0)", INVALID).due("nextBond(0)", INVALID).due("account(0, 0)", INVALID)
            .due("worth(0, 1)", INVALID).due("toPay()", 0).due("runsOut()", NOT_FOUND)
            .due("fault(0)", NOT_FOUND).due("undo()", NOT_POSSIBLE);
        for (int what = 0; what <= 6; what++) {
            run.due("cents(" + what + ")", 0);
        }
        run.due("clearText()", 0).due("cross(0)", NOT_POSSIBLE).due("cross(2)", NOT_POSSIBLE).due("locker()", 0);
    }

    private void lockerPromise() {
        promise(2, "Adds a locker, which is sealed.")
            .due("locker()", 0).due("lockerOf(0, 8)", 1).due("lockerOf(0, 9)", 1).due("lockerOf(0, 10)", 0)
            .due("seal(1, 0)", 0).due("seal(1, 1)", 0).due("seal(1, 2)", 0).after("pass(3)")
            .due("locker()", 1).due("lockerOf(1, 8)", 1).due("lockerOf(1, 9)", 2).due("lockerOf(1, 11)", 0)
            .due("seal(2, 0)", 1).due("seal(2, 1)", 3).due("seal(2, 2)", 0);
        promise(2, "Returns its number")
            .due("locker()", 0).due("locker()", 1).due("locker()", 2).due("locker()", 3).due("locker()", 4)
            .due("count(0)", 5);
        promise(2, "NOT_POSSIBLE if the ship is not in port")
            .after("cross(1)").due("locker()", NOT_POSSIBLE)
            .after("cross(0)").due("locker()", NOT_POSSIBLE)
            .after("cross(1)").due("locker()", NOT_POSSIBLE)
            .after("cross(2)").due("locker()", 0);
        promise(2, "LIMIT_REACHED if there are 5 lockers")
            .times(4, "locker()").due("locker()", 4).due("locker()", LIMIT).due("count(0)", 5).due("count(4)", 5)
            .due("undo()", 3).due("locker()", 4).due("locker()", LIMIT);
        fewSeals(promise(2, "or no seal is left."), 1)
            .due("count(4)", 199).due("locker()", 1).due("lockerOf(1, 9)", 200).due("count(4)", 200)
            .due("locker()", LIMIT).due("count(0)", 2);
    }

    private void goodPromise() {
        promise(3, "Adds a good.")
            .due("good(9)", 0).due("count(1)", 1).due("account(0, 0)", 0).due("duty(0, 9)", 9);
        promise(3, "`duty`: 1 to 1000000").due("good(1)", 0).due("good(1000000)", 1);
        promise(3, "INVALID_ARGUMENT if duty is out of range")
            .beside("good(#)", 1, 1000000).due("good(-1)", INVALID).due("count(1)", 0).due("good(1)", 0)
            .beside("good(#)", 1, 1000000).due("count(1)", 1);
        promise(3, "Returns its number")
            .due("good(8)", 0).after("cross(1)").due("good(8)", 1).after("cross(0)").due("good(8)", 2);
        promise(3, "LIMIT_REACHED if there are 8.")
            .times(7, "good(5)").due("good(6)", 7).due("good(7)", LIMIT).due("good(0)", INVALID).due("count(1)", 8)
            .due("duty(7, 1)", 6).due("duty(8, 1)", INVALID);
    }

    private void dutyPromise() {
        promise(4, "Sets the duty of a good; bonds that there are keep theirs.")
            .after(LOADED).due("duty(0, 3)", 100).due("bond(0, 3)", 100).due("bond(0, 4)", 1000)
            .due("bond(1, 4)", 2000).due("cents(1)", 3210).after("load(0, 0, 2)").due("bond(3, 3)", 3)
            .due("bond(3, 4)", 6).due("bond(2, 3)", 7);
        promise(4, "`good`: number of the good")
            .beside("duty(#, 5)", 0, -1).due("duty(0, 5)", INVALID)
            .after("good(1)").beside("duty(#, 5)", 0, 0).due("duty(0, 5)", 1)
            .times(7, "good(2)").beside("duty(#, 5)", 0, 7).due("duty(7, 5)", 2);
        promise(4, "`duty`: 1 to 1000000")
            .after("good(50)").due("duty(0, 1)", 50).due("duty(0, 1000000)", 1).due("duty(0, 2)", 1000000);
        promise(4, "INVALID_ARGUMENT if an argument is out of range.")
            .after("good(50)").beside("duty(0, #)", 1, 1000000).beside("duty(1, #)", 1, 1000000)
            .due("duty(0, 1)", 50);
        promise(4, "Returns what it was")
            .after("good(50)").due("duty(0, 50)", 50).due("count(9)", 2).due("duty(0, 51)", 50)
            .due("duty(0, 50)", 51);
    }

    private void loadPromise() {
        promise(5, "Loads units under a bond; the seal of the locker is taken off for it by an officer (if there is "
            + "one on it), and the locker is sealed again.")
            .after(EMPTY).after("pass(4)").due("load(1, 0, 10)", 0).due("seal(2, 2)", 2).due("seal(2, 1)", 0)
            .due("lockerOf(1, 8)", 1).due("lockerOf(1, 9)", 3).due("seal(3, 0)", 1).due("seal(3, 1)", 4)
            .due("seal(3, 2)", 0).due("seal(1, 2)", 0).due("lockerOf(0, 9)", 1).due("lockerOf(1, 0)", 10)
            .due("lockerOf(0, 0)", 0).due("bond(0, 5)", 34);
        promise(5, "`locker`: number of the locker")
            .after("good(1)").beside("load(#, 0, 1)", 0, -1).after("locker()").beside("load(#, 0, 1)", 0, 0)
            .due("load(0, 0, 1)", 0).times(4, "locker()").beside("load(#, 0, 1)", 0, 4).due("load(4, 0, 1)", 1);
        promise(5, "`good`: number of the good")
            .after("locker()").beside("load(0, #, 1)", 0, -1).after("good(1)").beside("load(0, #, 1)", 0, 0)
            .due("load(0, 0, 1)", 0).times(7, "good(1)").beside("load(0, #, 1)", 0, 7).due("load(0, 7, 1)", 1);
        promise(5, "`units`: 1 to 9999")
            .after(EMPTY).due("load(0, 0, 1)", 0).due("load(0, 0, 9999)", 1).due("lockerOf(0, 0)", 10000)
            .due("bond(1, 1)", 9999);
        promise(5, "INVALID_ARGUMENT if an argument is out of range")
            .after(EMPTY).beside("load(0, 0, #)", 1, 9999).due("load(0, 0, -1)", INVALID)
            .due("load(2, 2, 0)", INVALID).due("load(0, 2, 10000)", INVALID).due("count(2)", 0).due("count(4)", 2);
        promise(5, "Returns the number of the bond")
            .after(EMPTY).due("load(0, 0, 1)", 0).due("load(1, 1, 1)", 1).due("load(0, 1, 1)", 2)
            .after("bring(0, 1, 1)").due("load(0, 1, 1)", 3);
        promise(5, "NOT_POSSIBLE if the ship is not in port or the seal of the locker is torn")
            .after(EMPTY).after("tear(0)").due("load(0, 0, 1)", NOT_POSSIBLE).due("load(1, 0, 1)", 0)
            .after("cross(1)").due("load(1, 0, 1)", NOT_POSSIBLE).due("load(0, 0, 1)", NOT_POSSIBLE)
            .after("cross(0)").due("load(1, 0, 1)", NOT_POSSIBLE)
            .after("cross(1)").due("load(1, 0, 1)", NOT_POSSIBLE)
            .after("cross(2)").due("load(0, 0, 1)", 1);
    }

    private void loadLimits() {
        promise(5, "LIMIT_REACHED if there are 60 bonds")
            .after(EMPTY).times(59, "load(0, 0, 1)").due("load(1, 0, 1)", 59).due("load(0, 0, 1)", LIMIT)
            .due("count(2)", 60).due("lockerOf(0, 0)", 59).after("bring(0, 0, 9)", "bring(1, 0, 1)")
            .due("load(0, 0, 1)", LIMIT).due("count(3)", 50);
        fewSeals(promise(5, "no seal is left"), 1)
            .due("load(0, 0, 3)", 0).due("lockerOf(0, 9)", 200).due("load(0, 0, 1)", LIMIT)
            .due("lockerOf(0, 0)", 3).due("seal(200, 2)", 0);
        promise(5, "the locker would have more than 99999 units of the good in it")
            .after(EMPTY).times(10, "load(0, 1, 9999)").due("load(0, 1, 10)", LIMIT).due("load(0, 1, 9999)", LIMIT)
            .due("load(0, 1, 9)", 10).due("lockerOf(0, 1)", 99999).due("load(0, 1, 1)", LIMIT)
            .due("load(1, 1, 1)", 11).due("load(0, 0, 1)", 12).due("bring(0, 1, 1)", 7)
            .due("load(0, 1, 2)", LIMIT).due("load(0, 1, 1)", 13)
            .after(TO_SEA).after("smash(0, 1, 5, 0)").after(TO_PORT)
            .due("load(0, 1, 6)", LIMIT).due("load(0, 1, 5)", 14).due("account(1, 1)", 100000);
        promise(5, "or the amounts would be too great.")
            .after("locker()", "good(1000000)").due("load(0, 0, 9999)", LIMIT).due("load(0, 0, 4295)", LIMIT)
            .due("load(0, 0, 2148)", LIMIT).due("load(0, 0, 2147)", 0).due("load(0, 0, 1)", LIMIT)
            .after("duty(0, 483648)").due("load(0, 0, 1)", LIMIT).after("duty(0, 483647)").due("load(0, 0, 1)", 1)
            .due("cents(0)", MOST).after("duty(0, 1)").due("load(0, 0, 1)", LIMIT)
            .due("bring(0, 0, 2147)", 2147000000).due("load(0, 0, 1)", LIMIT).due("load(0, 0, 9999)", LIMIT);
    }

    private void lockerOfPromise() {
        promise(6, "Returns something of a locker.")
            .after(LOADED).due("lockerOf(0, 0)", 10).due("lockerOf(1, 0)", 20);
        promise(6, "`locker`: number of the locker")
            .beside("lockerOf(#, 8)", 0, -1).after("locker()").beside("lockerOf(#, 8)", 0, 0).due("lockerOf(0, 8)", 1)
            .times(4, "locker()").beside("lockerOf(#, 10)", 0, 4).due("lockerOf(4, 9)", 5);
        promise(6, "`what`: 0 to 7: units of this good; 8: 0 if it is open, 1 if it is sealed, 2 if its seal is torn; "
            + "9: the number of its seal, if it is sealed; 10: units of all goods; 11: units of all goods that are "
            + "missing from it")
            .after(LOADED).times(6, "good(1)").after("load(0, 7, 5)").due("lockerOf(0, 0)", 10)
            .due("lockerOf(0, 1)", 30).due("lockerOf(0, 6)", 0).due("lockerOf(0, 7)", 5).due("lockerOf(0, 8)", 1)
            .due("lockerOf(0, 9)", 6).due("lockerOf(0, 10)", 45).due("lockerOf(0, 11)", 0)
            .after("tear(0)").due("lockerOf(0, 8)", 2).after(TO_SEA).due("lockerOf(0, 8)", 0)
            .after("smash(0, 0, 1, 0)", "smash(0, 1, 2, 0)", "smash(0, 7, 4, 0)").due("lockerOf(0, 11)", 7)
            .due("lockerOf(0, 10)", 38).due("lockerOf(1, 11)", 0).due("lockerOf(0, 7)", 1);
        promise(6, "Returns the number; INVALID_ARGUMENT if an argument is out of range")
            .after(LOADED).beside("lockerOf(0, #)", 0, 11).beside("lockerOf(2, #)", 0, 11)
            .due("lockerOf(2, 9)", INVALID).due("lockerOf(0, 11)", 0);
        promise(6, "or there is no such good")
            .after("locker()").due("lockerOf(0, 0)", INVALID).due("lockerOf(0, 7)", INVALID).due("lockerOf(0, 10)", 0)
            .due("lockerOf(0, 11)", 0).times(7, "good(1)").due("lockerOf(0, 6)", 0).due("lockerOf(0, 7)", INVALID)
            .after("good(1)").due("lockerOf(0, 7)", 0);
        promise(6, "NOT_FOUND for 9 if it is not sealed.")
            .after("locker()", "locker()").due("lockerOf(0, 9)", 1).after("tear(0)").due("lockerOf(0, 9)", NOT_FOUND)
            .due("lockerOf(1, 9)", 2).after(TO_SEA).due("lockerOf(0, 9)", NOT_FOUND).due("lockerOf(1, 9)", NOT_FOUND)
            .after("cross(1)").due("lockerOf(0, 9)", 3).due("lockerOf(1, 9)", 4).due("lockerOf(2, 9)", INVALID);
        Run run = promise(6, "10: units of all goods").after("locker()").times(6, "good(1)");
        for (int good = 0; good < 6; good++) {
            run.times(10, "load(0, " + good + ", 9999)");
        }
        run.due("lockerOf(0, 10)", 599940).due("lockerOf(0, 5)", 99990);
    }

    private void missingPromise() {
        promise(7, "Returns how many units of a good are missing from a locker.")
            .after(LOADED).after(TO_SEA).due("missing(0, 0)", 0)
            .after("smash(0, 0, 2, 0)", "smash(0, 0, 8, 0)", "smash(1, 0, 4, 0)", "smash(0, 1, 9, 1)")
            .due("missing(0, 0)", 10).due("missing(1, 0)", 4).due("missing(0, 1)", 0).due("missing(1, 1)", 0);
        promise(7, "`locker`: number of the locker")
            .after("good(1)").beside("missing(#, 0)", 0, -1).after("locker()").beside("missing(#, 0)", 0, 0)
            .times(4, "locker()").beside("missing(#, 0)", 0, 4).due("missing(4, 0)", 0);
        promise(7, "`good`: number of the good")
            .after("locker()").beside("missing(0, #)", 0, -1).after("good(1)").beside("missing(0, #)", 0, 0)
            .times(7, "good(1)").beside("missing(0, #)", 0, 7).due("missing(0, 7)", 0);
        promise(7, "Returns the units; INVALID_ARGUMENT if an argument is out of range.")
            .after("locker()", "good(1)").times(10, "load(0, 0, 9999)").after("load(0, 0, 9)").after(TO_SEA)
            .times(10, "smash(0, 0, 9999, 0)").after("smash(0, 0, 9, 0)").due("missing(0, 0)", 99999)
            .due("lockerOf(0, 0)", 0).after(TO_PORT).after("load(0, 0, 1)").after(TO_SEA).after("smash(0, 0, 1, 0)")
            .due("missing(0, 0)", 100000).due("missing(0, 1)", INVALID).due("missing(1, 0)", INVALID)
            .due("missing(1, 1)", INVALID);
    }

    private void sealPromise() {
        promise(8, "Returns something of a seal that has been used.")
            .after("locker()").due("seal(1, 0)", 0).due("seal(2, 0)", INVALID);
        promise(8, "`seal`: its number")
            .beside("seal(#, 0)", 1, 0).due("seal(1, 0)", INVALID).after("locker()").beside("seal(#, 0)", 1, 1)
            .after("locker()").beside("seal(#, 0)", 1, 2).due("seal(2, 0)", 1).due("undo()", 1)
            .beside("seal(#, 0)", 1, 1);
        fewSeals(promise(8, "`seal`: its number"), 0)
            .due("seal(1, 2)", 2).due("seal(199, 2)", 2).due("seal(200, 2)", 0).due("seal(200, 0)", 0)
            .due("seal(200, 1)", 0).beside("seal(#, 2)", 1, 200);
        promise(8, "`what`: 0: the locker; 1: the day on which it was put on; 2: 0 if it is on the locker, 1 if it "
            + "was taken off at sea, 2 if it was taken off by an officer, 3 if it is torn")
            .after("pass(2)", "locker()", "locker()").due("seal(2, 0)", 1).due("seal(2, 1)", 2).due("seal(2, 2)", 0)
            .after("inspect(0)").due("seal(1, 2)", 2).after("tear(0)").due("seal(3, 2)", 3).after("pass(60)")
            .after(TO_SEA).due("seal(1, 2)", 2).due("seal(2, 2)", 1).due("seal(3, 2)", 3).due("seal(2, 1)", 2)
            .after("cross(1)").due("seal(4, 0)", 0).due("seal(5, 0)", 1).due("seal(5, 1)", 62).due("seal(5, 2)", 0);
        promise(8, "Returns the number; INVALID_ARGUMENT if an argument is out of range.")
            .after("locker()").beside("seal(1, #)", 0, 2).beside("seal(2, #)", 0, 2).due("seal(0, 0)", INVALID);
    }

    private void bondPromise() {
        promise(9, "Returns something of a bond.").after(LOADED).due("bond(2, 0)", 1);
        promise(9, "`bond`: number of the bond")
            .after(EMPTY).beside("bond(#, 0)", 0, -1).due("bond(0, 0)", INVALID).after("load(0, 1, 1)")
            .beside("bond(#, 0)", 0, 0).due("bond(0, 0)", 1).times(59, "load(0, 0, 1)").beside("bond(#, 0)", 0, 59)
            .due("bond(59, 0)", 0);
        promise(9, "`what`: 0: the good; 1: the units with which it was made; 2: those that are left; 3: the duty of "
            + "a unit; 4: the amount that is held; 5: the day on which it is due")
            .after(EMPTY).after("pass(2)", "load(0, 1, 6)").due("bond(0, 0)", 1).due("bond(0, 1)", 6)
            .due("bond(0, 2)", 6).due("bond(0, 3)", 7).due("bond(0, 4)", 42).due("bond(0, 5)", 32)
            .after("bring(0, 1, 5)").due("bond(0, 1)", 6).due("bond(0, 2)", 1).due("bond(0, 4)", 7)
            .after("bring(0, 1, 1)").due("bond(0, 1)", 6).due("bond(0, 2)", 0).due("bond(0, 3)", 7)
            .due("bond(0, 4)", 0).due("bond(0, 5)", 32);
        promise(9, "4: the amount that is held")
            .after("locker()", "good(1000000)", "load(0, 0, 2147)").due("bond(0, 4)", 2147000000);
        promise(9, "5: the day on which it is due").after("locker()", "good(1)", "set(1, 99)").after("load(0, 0, 1)")
            .due("bond(0, 5)", 99).after("set(1, 1)", "load(0, 0, 1)").due("bond(1, 5)", 1);
        late(promise(9, "5: the day on which it is due")).after("locker()", "good(1)", "set(1, 99)", "pass(20)")
            .after("load(0, 0, 1)").due("bond(0, 5)", 5099);
        promise(9, "Returns the number; INVALID_ARGUMENT if an argument is out of range.")
            .after(LOADED).beside("bond(0, #)", 0, 5).beside("bond(3, #)", 0, 5).due("bond(3, 0)", INVALID);
    }

    private void nextBondPromise() {
        promise(10, "Finds the bond from which units of a good would be released next.")
            .after(EMPTY).after("load(0, 0, 5)", "load(0, 0, 5)").due("nextBond(0)", 0)
            .after("set(1, 29)", "load(0, 0, 2)", "load(0, 0, 2)").due("nextBond(0)", 2)
            .after("pass(1)", "load(0, 0, 1)").due("nextBond(0)", 2).after("bring(0, 0, 1)").due("nextBond(0)", 2)
            .after("bring(0, 0, 1)").due("nextBond(0)", 3).after("bring(0, 0, 2)").due("nextBond(0)", 0)
            .after("bring(0, 0, 5)").due("nextBond(0)", 1).after("bring(0, 0, 5)").due("nextBond(0)", 4);
        promise(10, "`good`: number of the good")
            .beside("nextBond(#)", 0, -1).after("good(1)").beside("nextBond(#)", 0, 0).due("nextBond(0)", NOT_FOUND)
            .times(7, "good(1)").beside("nextBond(#)", 0, 7).after("locker()", "load(0, 7, 1)").due("nextBond(7)", 0);
        promise(10, "Returns the number of the bond; INVALID_ARGUMENT;")
            .after(LOADED).due("nextBond(0)", 0).due("nextBond(1)", 2).due("nextBond(2)", INVALID)
            .due("nextBond(-1)", INVALID);
        promise(10, "NOT_FOUND if no bond of it has units left.")
            .after(EMPTY).due("nextBond(0)", NOT_FOUND).after("load(0, 1, 1)").due("nextBond(0)", NOT_FOUND)
            .due("nextBond(1)", 0).after("bring(0, 1, 1)").due("nextBond(1)", NOT_FOUND)
            .after("load(0, 0, 1)", "pass(30)").due("nextBond(0)", 1).after("pass(1)").due("nextBond(0)", NOT_FOUND);
        Run run = promise(10, "Returns the number of the bond").after("locker()", "good(1)").times(59, "load(0, 0, 1)");
        run.after("good(1)", "load(0, 1, 1)").due("nextBond(1)", 59).due("nextBond(0)", 0)
            .after("bring(0, 0, 58)").due("nextBond(0)", 58).after("bring(0, 0, 1)").due("nextBond(0)", NOT_FOUND);
    }
}
