/** The boundary cases of the promises 11 to 18: what becomes of goods. */
final class EdgesOfGoods extends Edges {
    EdgesOfGoods(Checks checks, Document document) {
        super(checks, document);
    }

    @Override
    void all() {
        usePromise();
        bringPromise();
        smashPromise();
        tearPromise();
        inspectPromise();
        inspectLimits();
        crossPromise();
        crossLimits();
        passPromise();
        setPromise();
    }

    private void usePromise() {
        promise(11, "Uses units.")
            .after(LOADED).after(TO_SEA).after("use(0, 0, 3)").due("lockerOf(0, 0)", 7).due("lockerOf(1, 0)", 20)
            .due("account(0, 3)", 3).due("bond(0, 2)", 7).due("missing(0, 0)", 0);
        promise(11, "`locker`: number of the locker")
            .after(LOADED).after(TO_SEA).beside("use(#, 0, 1)", 0, 1).due("use(1, 0, 1)", 100).due("use(0, 0, 1)", 100);
        promise(11, "`good`: number of the good")
            .after(LOADED).after(TO_SEA).beside("use(0, #, 1)", 0, 1).due("use(0, 1, 1)", 7).due("use(0, 0, 1)", 100);
        promise(11, "`units`: 1 to 9999")
            .after(EMPTY).after("load(0, 1, 9999)", "load(0, 1, 9999)").after(TO_SEA).due("use(0, 1, 1)", 7)
            .due("use(0, 1, 9999)", 69993).due("lockerOf(0, 1)", 9998);
        promise(11, "INVALID_ARGUMENT if an argument is out of range")
            .after(EMPTY).after("load(0, 1, 9999)", "load(0, 1, 9999)").after(TO_SEA).beside("use(0, 1, #)", 1, 9999)
            .due("use(0, 1, -1)", INVALID).due("use(2, 2, 0)", INVALID).due("use(0, 2, 1)", INVALID)
            .due("lockerOf(0, 1)", 19998);
        promise(11, "Returns the amount that is released;")
            .after(EMPTY).after("load(0, 0, 3)", "duty(0, 9)", "load(0, 0, 2)").after(TO_SEA)
            .due("use(0, 0, 3)", 300).due("use(0, 0, 2)", 18);
        promise(11, "Returns the amount that is released;")
            .after(MOST_CENTS).after(TO_SEA).due("use(0, 0, 2147)", 2147000000).due("cents(2)", 2147000000);
        promise(11, "NOT_POSSIBLE if the ship is not on the open sea")
            .after(LOADED).due("use(0, 0, 1)", NOT_POSSIBLE).after("cross(1)").due("use(0, 0, 1)", NOT_POSSIBLE)
            .after("cross(0)").due("use(0, 0, 1)", 100).after("cross(1)").due("use(0, 0, 1)", NOT_POSSIBLE)
            .after("tear(0)").due("use(0, 0, 1)", NOT_POSSIBLE);
        promise(11, "or the locker has fewer units.")
            .after(LOADED).after(TO_SEA).due("use(0, 0, 11)", NOT_POSSIBLE).due("use(1, 1, 1)", NOT_POSSIBLE)
            .due("use(0, 0, 10)", 1000).due("use(0, 0, 1)", NOT_POSSIBLE).due("lockerOf(0, 0)", 0)
            .after("smash(1, 0, 15, 0)").due("use(1, 0, 6)", NOT_POSSIBLE).due("use(1, 0, 5)", 500);
    }

    private void bringPromise() {
        promise(12, "Brings units back ashore.")
            .after(LOADED).after("bring(0, 0, 4)").due("lockerOf(0, 0)", 6).due("account(0, 4)", 4)
            .due("cents(3)", 400).due("seal(5, 2)", 2).due("lockerOf(0, 9)", 6).due("lockerOf(0, 8)", 1);
        promise(12, "`locker`: number of the locker")
            .after(LOADED).beside("bring(#, 0, 1)", 0, 1).due("bring(1, 0, 1)", 100).due("bring(0, 0, 1)", 100);
        promise(12, "`good`: number of the good")
            .after(LOADED).beside("bring(0, #, 1)", 0, 1).due("bring(0, 1, 1)", 7).due("bring(0, 0, 1)", 100);
        promise(12, "`units`: 1 to 9999")
            .after(EMPTY).after("load(0, 1, 9999)", "load(0, 1, 9999)").due("bring(0, 1, 1)", 7)
            .due("bring(0, 1, 9999)", 69993).due("lockerOf(0, 1)", 9998);
        promise(12, "INVALID_ARGUMENT if an argument is out of range")
            .after(EMPTY).after("load(0, 1, 9999)", "load(0, 1, 9999)").beside("bring(0, 1, #)", 1, 9999)
            .due("bring(0, 1, -1)", INVALID).due("bring(2, 2, 0)", INVALID).due("count(4)", 4);
        promise(12, "Returns the amount that is released;")
            .after(EMPTY).after("load(0, 0, 3)", "duty(0, 9)", "load(0, 0, 2)").due("bring(0, 0, 4)", 309)
            .due("bring(0, 0, 1)", 9);
        promise(12, "NOT_POSSIBLE if the ship is not in port, the seal of the locker is torn")
            .after(LOADED).after("tear(1)").due("bring(1, 0, 1)", NOT_POSSIBLE).due("bring(0, 0, 1)", 100)
            .after("cross(1)").due("bring(0, 0, 1)", NOT_POSSIBLE).after("cross(0)").due("bring(0, 0, 1)", NOT_POSSIBLE)
            .after("cross(1)").due("bring(0, 0, 1)", NOT_POSSIBLE).after("cross(2)").due("bring(1, 0, 1)", 100)
            .after("tear(1)", "inspect(1)").due("bring(1, 0, 1)", 100);
        promise(12, "or it has fewer units;")
            .after(LOADED).due("bring(0, 0, 11)", NOT_POSSIBLE).due("bring(1, 1, 1)", NOT_POSSIBLE)
            .due("bring(0, 0, 10)", 1000).due("bring(0, 0, 1)", NOT_POSSIBLE).due("count(4)", 6)
            .after(TO_SEA).after("smash(1, 0, 15, 0)").after(TO_PORT).due("bring(1, 0, 6)", NOT_POSSIBLE)
            .due("bring(1, 0, 5)", 500);
        fewSeals(promise(12, "LIMIT_REACHED if no seal is left."), 2)
            .after("load(0, 0, 5)").due("bring(0, 0, 2)", 2).due("count(4)", 200).due("bring(0, 0, 3)", LIMIT)
            .due("lockerOf(0, 0)", 3).due("cents(3)", 2).due("bring(0, 0, 4)", NOT_POSSIBLE);
    }

    private void smashPromise() {
        promise(13, "Breaks units.")
            .after(LOADED).after(TO_SEA).after("smash(0, 0, 3, 2)").due("lockerOf(0, 0)", 7).due("account(0, 5)", 3)
            .due("cents(4)", 300).due("missing(0, 0)", 0).after("smash(0, 0, 4, 0)").due("lockerOf(0, 0)", 3)
            .due("account(0, 5)", 3).due("missing(0, 0)", 4).due("bond(0, 2)", 7);
        promise(13, "`locker`: number of the locker")
            .after(LOADED).after(TO_SEA).beside("smash(#, 0, 1, 1)", 0, 1).due("smash(1, 0, 1, 1)", 100);
        promise(13, "`good`: number of the good")
            .after(LOADED).after(TO_SEA).beside("smash(0, #, 1, 1)", 0, 1).due("smash(0, 1, 1, 1)", 7);
        promise(13, "`units`: 1 to 9999")
            .after(EMPTY).after("load(0, 1, 9999)", "load(0, 1, 9999)").after(TO_SEA).due("smash(0, 1, 1, 1)", 7)
            .due("smash(0, 1, 9999, 1)", 69993).due("smash(0, 1, 1, 0)", 0).due("missing(0, 1)", 1);
        promise(13, "`units`: 1 to 9999")
            .after(EMPTY).after("load(0, 1, 9999)").after(TO_SEA).due("smash(0, 1, 9999, 0)", 0)
            .due("missing(0, 1)", 9999).due("lockerOf(0, 1)", 0);
        promise(13, "`witnesses`: 0 to 9")
            .after(LOADED).after(TO_SEA).due("smash(0, 0, 1, 0)", 0).due("smash(0, 0, 1, 1)", 100)
            .due("smash(0, 0, 1, 9)", 100).due("missing(0, 0)", 1).due("account(0, 5)", 2);
        promise(13, "INVALID_ARGUMENT if an argument is out of range")
            .after(EMPTY).after("load(0, 1, 9999)", "load(0, 1, 9999)").after(TO_SEA)
            .beside("smash(0, 1, #, 1)", 1, 9999).beside("smash(0, 1, #, 0)", 1, 9999).beside("smash(0, 1, 1, #)", 0, 9)
            .due("smash(2, 2, 0, 10)", INVALID).due("lockerOf(0, 1)", 19998).due("missing(0, 1)", 0);
        promise(13, "Returns the amount that is released, 0 without witnesses;")
            .after(EMPTY).after("load(0, 0, 3)", "duty(0, 9)", "load(0, 0, 3)").after(TO_SEA)
            .due("smash(0, 0, 1, 0)", 0).due("smash(0, 0, 4, 1)", 309).due("smash(0, 0, 1, 0)", 0)
            .due("cents(4)", 309).due("cents(1)", 18);
        promise(13, "NOT_POSSIBLE if the ship is not on the open sea")
            .after(LOADED).due("smash(0, 0, 1, 1)", NOT_POSSIBLE).due("smash(0, 0, 1, 0)", NOT_POSSIBLE)
            .after("cross(1)").due("smash(0, 0, 1, 1)", NOT_POSSIBLE).due("smash(0, 0, 1, 0)", NOT_POSSIBLE)
            .after("cross(0)").due("smash(0, 0, 1, 1)", 100).after("cross(1)").due("smash(0, 0, 1, 0)", NOT_POSSIBLE);
        promise(13, "or the locker has fewer units.")
            .after(LOADED).after(TO_SEA).due("smash(0, 0, 11, 1)", NOT_POSSIBLE).due("smash(0, 0, 11, 0)", NOT_POSSIBLE)
            .due("smash(1, 1, 1, 0)", NOT_POSSIBLE).due("smash(0, 0, 10, 0)", 0).due("smash(0, 0, 1, 0)", NOT_POSSIBLE)
            .due("smash(1, 0, 20, 1)", 2000).due("smash(1, 0, 1, 1)", NOT_POSSIBLE);
    }

    private void tearPromise() {
        promise(14, "Tears the seal of a locker.")
            .after(LOADED).after("tear(1)").due("lockerOf(1, 8)", 2).due("seal(4, 2)", 3).due("count(8)", 1)
            .due("count(7)", 1).due("lockerOf(1, 0)", 20).due("seal(5, 2)", 0);
        promise(14, "`locker`: number of the locker")
            .beside("tear(#)", 0, -1).after("locker()").beside("tear(#)", 0, 0).times(4, "locker()")
            .beside("tear(#)", 0, 4).due("tear(4)", 5).due("tear(0)", 1);
        promise(14, "Returns the number of the seal; INVALID_ARGUMENT;")
            .after(LOADED).due("tear(0)", 5).due("tear(1)", 4).due("tear(2)", INVALID).due("tear(-1)", INVALID);
        promise(14, "NOT_POSSIBLE if the locker is not sealed.")
            .after("locker()", "locker()").due("tear(0)", 1).due("tear(0)", NOT_POSSIBLE)
            .after("cross(1)").due("tear(0)", NOT_POSSIBLE).due("tear(1)", 2).due("tear(1)", NOT_POSSIBLE)
            .after("cross(0)").due("tear(0)", NOT_POSSIBLE).due("tear(1)", NOT_POSSIBLE)
            .after("cross(1)").due("tear(0)", 3).after("cross(2)").due("tear(1)", 4).after("inspect(0)")
            .due("tear(0)", 5);
        fewSeals(promise(14, "Returns the number of the seal"), 0).due("tear(0)", 200).due("tear(0)", NOT_POSSIBLE);
    }

    private void inspectPromise() {
        promise(15, "An officer counts a locker.")
            .after(LOADED).after(TO_SEA).after("smash(0, 0, 4, 0)", "smash(0, 1, 30, 0)", "smash(1, 0, 6, 0)")
            .after(TO_PORT).after("pass(2)", "inspect(0)").due("missing(0, 0)", 0).due("missing(0, 1)", 0)
            .due("missing(1, 0)", 6).due("account(0, 6)", 4).due("account(1, 6)", 30).due("cents(5)", 610)
            .due("seal(6, 2)", 2).due("lockerOf(0, 9)", 8).due("seal(8, 1)", 2).due("seal(7, 2)", 0);
        promise(15, "`locker`: number of the locker")
            .beside("inspect(#)", 0, -1).after("locker()").beside("inspect(#)", 0, 0).times(4, "locker()")
            .beside("inspect(#)", 0, 4).due("inspect(4)", 0).due("inspect(0)", 0);
        promise(15, "Returns what is to be paid: the taxes of what is missing, and the fine for a torn seal; "
            + "INVALID_ARGUMENT;")
            .after(LOADED).after(TO_SEA).after("smash(1, 0, 2, 0)", "smash(0, 1, 30, 0)").after(TO_PORT)
            .due("inspect(2)", INVALID).after("tear(1)").due("inspect(1)", 5200).due("cents(6)", 5000)
            .due("inspect(1)", 0).due("inspect(0)", 210).due("inspect(0)", 0).after("tear(0)", "set(0, 0)")
            .due("inspect(0)", 0).after("tear(0)", "set(0, 1)").due("inspect(0)", 1).due("cents(6)", 5001)
            .due("cents(5)", 410);
        promise(15, "NOT_POSSIBLE if the ship is not in port;")
            .after("locker()", "cross(1)").due("inspect(0)", NOT_POSSIBLE).after("tear(0)")
            .due("inspect(0)", NOT_POSSIBLE).after("cross(0)").due("inspect(0)", NOT_POSSIBLE).after("cross(1)")
            .due("inspect(0)", NOT_POSSIBLE).after("cross(2)").due("inspect(0)", 0);
    }

    private void inspectLimits() {
        fewSeals(promise(15, "LIMIT_REACHED if no seal is left"), 1)
            .due("inspect(0)", 0).due("inspect(0)", LIMIT).after("tear(0)").due("inspect(0)", LIMIT)
            .due("cents(6)", 0).due("lockerOf(0, 8)", 2).due("inspect(1)", INVALID);
        promise(15, "or it would be more than 2147483647.")
            .after(MOST_CENTS).after(TO_SEA)
            .after("smash(0, 0, 2147, 0)", "smash(0, 1, 483, 0)", "smash(0, 2, 647, 0)").after(TO_PORT)
            .after("tear(0)", "set(0, 1)").due("inspect(0)", LIMIT).after("set(0, 100000)").due("inspect(0)", LIMIT)
            .due("missing(0, 0)", 2147).due("missing(0, 2)", 647).due("cents(5)", 0).due("cents(6)", 0)
            .due("lockerOf(0, 8)", 2).after("set(0, 0)").due("inspect(0)", MOST).due("cents(5)", MOST)
            .due("cents(1)", 0).due("toPay()", 0);
        promise(15, "or it would be more than 2147483647.")
            .after(MOST_CENTS).after(TO_SEA)
            .after("smash(0, 0, 2147, 0)", "smash(0, 1, 483, 0)", "smash(0, 2, 647, 1)").after(TO_PORT)
            .after("tear(0)", "set(0, 648)").due("inspect(0)", LIMIT).after("set(0, 647)").due("inspect(0)", MOST);
    }

    private void crossPromise() {
        promise(16, "Crosses to another zone.")
            .due("cross(1)", 0).due("count(5)", 1).due("cross(0)", 0).due("count(5)", 0).due("cross(1)", 0)
            .due("cross(2)", 0).due("count(5)", 2);
        promise(16, "`zone`: 0 to 2").after("cross(1)").due("cross(0)", 0).due("cross(1)", 0).due("cross(2)", 0);
        promise(16, "INVALID_ARGUMENT if zone is out of range")
            .beside("cross(#)", 0, 2).after("cross(1)").beside("cross(#)", 0, 2).after("cross(0)")
            .beside("cross(#)", 0, 2).due("count(5)", 0);
        promise(16, "NOT_POSSIBLE if the ship is there, or cannot cross to it from where it is;")
            .due("cross(2)", NOT_POSSIBLE).due("cross(0)", NOT_POSSIBLE).after("cross(1)").due("cross(1)", NOT_POSSIBLE)
            .after("cross(0)").due("cross(0)", NOT_POSSIBLE).due("cross(2)", NOT_POSSIBLE).after("cross(1)")
            .due("cross(1)", NOT_POSSIBLE).after("cross(2)").due("count(5)", 2);
        promise(16, "Returns how many lockers are sealed, or how many seals are taken off, by this (torn ones are not "
            + "counted, and stay torn);")
            .times(5, "locker()").after("tear(2)").due("cross(1)", 0).after("tear(4)").due("cross(2)", 0)
            .due("count(8)", 2).due("cross(1)", 0).due("lockerOf(2, 8)", 2).due("cross(0)", 3)
            .due("seal(1, 2)", 1).due("seal(2, 2)", 1).due("seal(3, 2)", 3).due("seal(4, 2)", 1).due("seal(5, 2)", 3)
            .due("count(7)", 0).due("count(8)", 0).due("cross(1)", 5).due("count(7)", 5).due("seal(3, 2)", 3)
            .due("lockerOf(0, 9)", 6).due("lockerOf(4, 9)", 10).due("cross(0)", 5).due("seal(5, 2)", 3)
            .due("seal(6, 2)", 1);
        promise(16, "Returns how many lockers are sealed, or how many seals are taken off, by this (torn ones are not "
            + "counted, and stay torn);")
            .after("locker()", "tear(0)", "cross(1)").due("cross(0)", 0).due("lockerOf(0, 8)", 0)
            .due("toPay()", 0).due("cross(1)", 1).after("cross(2)").due("inspect(0)", 0);
    }

    private void crossLimits() {
        fewSeals(promise(16, "LIMIT_REACHED if too few seals are left."), 3)
            .after("locker()").after(TO_SEA).due("cross(1)", 2).due("count(4)", 200).due("cross(0)", 2)
            .due("cross(1)", LIMIT).due("cross(0)", NOT_POSSIBLE).due("cross(2)", NOT_POSSIBLE)
            .due("cross(3)", INVALID).due("count(5)", 0).due("lockerOf(0, 8)", 0);
        fewSeals(promise(16, "LIMIT_REACHED if too few seals are left."), 2)
            .after("locker()").after(TO_SEA).due("count(4)", 199).due("cross(1)", LIMIT).due("count(4)", 199)
            .due("count(7)", 0).due("undo()", 3).due("cross(2)", 0);
        fewSeals(promise(16, "LIMIT_REACHED if too few seals are left."), 0)
            .due("cross(1)", 0).due("cross(2)", 0).after("tear(0)").due("cross(1)", 0).due("cross(0)", 0)
            .due("cross(1)", LIMIT);
        fewSeals(promise(16, "LIMIT_REACHED if too few seals are left."), 9)
            .times(4, "locker()").after(TO_SEA).due("cross(1)", 5).due("lockerOf(4, 9)", 200);
        fewSeals(promise(16, "LIMIT_REACHED if too few seals are left."), 8)
            .times(4, "locker()").after(TO_SEA).due("cross(1)", LIMIT);
    }

    private void passPromise() {
        promise(17, "Lets days go by.").after("pass(1)").due("count(6)", 1).after("pass(9)").due("count(6)", 10);
        promise(17, "`days`: 1 to 60")
            .due("pass(1)", 0).due("count(6)", 1).due("pass(60)", 0).due("count(6)", 61);
        promise(17, "INVALID_ARGUMENT if days is out of range;")
            .beside("pass(#)", 1, 60).due("pass(-1)", INVALID).due("count(6)", 0).after("cross(1)")
            .beside("pass(#)", 1, 60);
        promise(17, "Returns the taxes for bonds that run out in them;")
            .after(LOADED).due("pass(30)", 0).due("count(3)", 3).after("set(1, 1)", "load(1, 1, 2)", "load(1, 1, 4)")
            .due("pass(1)", 3210).due("count(3)", 2).due("cents(5)", 3210).due("pass(1)", 42).due("cents(1)", 0)
            .due("pass(1)", 0).due("account(1, 6)", 36).due("account(1, 1)", 0);
        promise(17, "Returns the taxes for bonds that run out in them;")
            .after(MOST_CENTS).due("pass(60)", MOST).due("cents(5)", MOST).due("pass(60)", 0);
        promise(17, "Returns the taxes for bonds that run out in them;")
            .after(EMPTY).after("set(1, 58)", "load(0, 0, 1)", "set(1, 59)", "load(0, 0, 1)", "set(1, 60)")
            .after("load(0, 0, 1)").due("pass(60)", 200).due("bond(2, 2)", 1).due("lockerOf(0, 0)", 1)
            .due("pass(1)", 100);
        late(promise(17, "LIMIT_REACHED if the day would be greater than 5000."))
            .due("pass(21)", LIMIT).due("pass(60)", LIMIT).due("pass(61)", INVALID).due("pass(0)", INVALID)
            .due("pass(20)", 0).due("count(6)", 5000).due("pass(1)", LIMIT).due("pass(60)", LIMIT)
            .due("pass(61)", INVALID).due("undo()", 3).due("pass(19)", 0).due("pass(2)", LIMIT).due("pass(1)", 0)
            .due("count(6)", 5000);
        promise(17, "LIMIT_REACHED if the day would be greater than 5000.")
            .times(82, "pass(60)").after("pass(20)").due("count(6)", 4940).due("pass(60)", 0).due("undo()", 3)
            .after("pass(1)").due("pass(60)", LIMIT).due("pass(59)", 0).due("count(6)", 5000);
    }

    private void setPromise() {
        promise(18, "Sets a setting.")
            .after("set(0, 1)").due("count(20)", 1).due("count(21)", 30).after("set(1, 2)").due("count(20)", 1)
            .due("count(21)", 2);
        promise(18, "`what`: 0 or 1").beside("set(#, 5)", 0, 1).due("set(0, 5)", 5000).due("set(1, 5)", 30);
        promise(18, "`value`: a value in its range")
            .due("set(0, 0)", 5000).due("set(0, 100000)", 0).due("set(1, 1)", 30).due("set(1, 99)", 1)
            .due("count(20)", 100000).due("count(21)", 99);
        promise(18, "INVALID_ARGUMENT if an argument is out of range.")
            .beside("set(0, #)", 0, 100000).beside("set(1, #)", 1, 99).beside("set(2, #)", 1, 99)
            .due("set(-1, 5)", INVALID).due("count(20)", 5000).due("count(21)", 30).due("count(9)", 0);
        promise(18, "Returns what it was;")
            .due("set(0, 5000)", 5000).due("count(9)", 1).due("set(0, 0)", 5000).due("set(0, 7)", 0)
            .due("set(1, 30)", 30).due("set(1, 31)", 30).due("set(1, 30)", 31);
    }
}
