/** The boundary cases of the promises 26 to 29, and of what the terms say of texts. */
final class EdgesOfTexts extends Edges {
    private static final int FORM = 1;
    private static final int CALL = 2;

    EdgesOfTexts(Checks checks, Document document) {
        super(checks, document);
    }

    @Override
    void all() {
        typePromise();
        clearTextPromise();
        faultPromise();
        playPromise();
        theText();
        formOfOrders();
        beginningsOfOrders();
        numbersOfOrders();
        placesOfFaults();
        causesOfFaults();
    }

    private void typePromise() {
        promise(26, "Appends a character to the text.")
            .due("type(100)", 1).due("fault(0)", 0).due("type(49)", 2).due("fault(0)", 0).due("type(59)", 3)
            .due("fault(0)", NOT_FOUND).due("play()", 1).due("count(6)", 1);
        promise(26, "`character`: 32 to 126")
            .due("type(32)", 1).due("type(126)", 2).due("count(10)", 2).due("count(9)", 0);
        promise(26, "INVALID_ARGUMENT if character is out of range;")
            .beside("type(#)", 32, 126).due("type(-1)", INVALID).due("type(0)", INVALID).due("type(65568)", INVALID)
            .due("count(10)", 0).types("d1").beside("type(#)", 32, 126).due("type(59)", 3).due("play()", 1);
        promise(26, "Returns the length of the text;")
            .due("type(97)", 1).due("type(97)", 2).after("clearText()").due("type(97)", 1);
        promise(26, "LIMIT_REACHED if it has 80 characters.")
            .types("d1;".repeat(26) + "d").due("type(50)", 80).due("type(59)", LIMIT).due("type(31)", INVALID)
            .due("type(127)", INVALID).due("count(10)", 80).due("fault(0)", 78).due("clearText()", 80)
            .due("type(59)", 1);
    }

    private void clearTextPromise() {
        promise(27, "Empties the text.")
            .types("d1;").after("clearText()").due("count(10)", 0).due("fault(0)", NOT_FOUND).due("play()", 0)
            .due("count(6)", 0).types("d2;").due("play()", 1).due("count(6)", 2);
        promise(27, "Returns the length it had.")
            .due("clearText()", 0).due("clearText()", 0).types("d").due("clearText()", 1).due("clearText()", 0)
            .types("d".repeat(80)).due("clearText()", 80).due("count(10)", 0).due("count(9)", 0);
    }

    private void faultPromise() {
        promise(28, "Tells about the fault of the text.").types("d1;q").due("fault(0)", 3).due("fault(1)", FORM);
        promise(28, "`what`: 0: its position; 1: its reason; 2: its cause")
            .types("d1;d0;").due("fault(0)", 3).due("fault(1)", CALL).due("fault(2)", INVALID);
        promise(28, "Returns that; INVALID_ARGUMENT if what is out of range;")
            .beside("fault(#)", 0, 2).types("d1;").beside("fault(#)", 0, 2).types("d0;").beside("fault(#)", 0, 2)
            .types("d").beside("fault(#)", 0, 2);
        promise(28, "NOT_FOUND if the text has no fault (also if it is empty)")
            .due("fault(0)", NOT_FOUND).due("fault(1)", NOT_FOUND).due("fault(2)", NOT_FOUND).types("d1;d60;")
            .due("fault(0)", NOT_FOUND).due("fault(1)", NOT_FOUND).due("fault(2)", NOT_FOUND).after("clearText()")
            .due("fault(0)", NOT_FOUND).due("fault(1)", NOT_FOUND).due("fault(2)", NOT_FOUND);
        promise(28, "for 2 if its reason is 1.")
            .types("d1;d").due("fault(1)", FORM).due("fault(2)", NOT_FOUND).due("fault(0)", 3)
            .types("d0;d").due("fault(1)", CALL).due("fault(2)", INVALID);
    }

    private void playPromise() {
        promise(29, "Does all orders of the text, which stays.")
            .after(LOADED).types("r0,0,1;z1;z0;u1,0,2;b1,0,3,4;b0,1,5,0;z1;t1;z2;c0;d2;").due("play()", 11)
            .due("count(10)", 53).due("account(0, 4)", 1).due("account(0, 3)", 2).due("account(0, 5)", 3)
            .due("account(1, 6)", 5).due("lockerOf(0, 0)", 9).due("lockerOf(1, 0)", 15).due("lockerOf(0, 1)", 25)
            .due("lockerOf(1, 8)", 2).due("lockerOf(0, 8)", 1).due("count(6)", 2).due("count(5)", 2)
            .due("cents(5)", 35).due("count(4)", 9).due("play()", 11).due("count(10)", 53)
            .due("count(6)", 4);
        promise(29, "Does all orders of the text, which stays.")
            .after(EMPTY).types("d4;z1;z0;d3;z1;t1;z2;d2;c0;").due("play()", 9).due("count(4)", 5)
            .due("seal(1, 2)", 1).due("seal(2, 2)", 1).due("seal(3, 0)", 0).due("seal(3, 1)", 7).due("seal(3, 2)", 2)
            .due("seal(4, 0)", 1).due("seal(4, 1)", 7).due("seal(4, 2)", 3).due("seal(5, 0)", 0).due("seal(5, 1)", 9)
            .due("seal(5, 2)", 0).due("lockerOf(0, 9)", 5).due("lockerOf(1, 8)", 2);
        fewSeals(promise(29, "Does all orders of the text, which stays."), 3).after("locker()")
            .types("d7;c1;d1;t1;c1;").due("play()", 5).due("seal(198, 2)", 2).due("seal(199, 0)", 1)
            .due("seal(199, 1)", 7).due("seal(199, 2)", 3).due("seal(200, 0)", 1).due("seal(200, 1)", 8)
            .due("seal(200, 2)", 0).due("lockerOf(1, 9)", 200).due("cents(6)", 5000).due("play()", NOT_POSSIBLE)
            .due("fault(0)", 3).due("fault(2)", LIMIT);
        promise(29, "Does all orders of the text, which stays.").after(EMPTY).times(59, "load(0, 0, 1)")
            .after("load(1, 1, 9)").types("r1,1,4;d29;").due("play()", 2).due("cents(3)", 28).due("bond(59, 2)", 5)
            .types("d1;d1;").due("play()", 2).due("cents(5)", 5935).due("bond(59, 2)", 0).due("lockerOf(1, 1)", 0);
        promise(29, "They are one change, also if there are none.")
            .due("play()", 0).due("count(9)", 1).types("z1;d5;z0;").due("play()", 3).due("count(9)", 2)
            .due("undo()", 1).due("count(5)", 2).due("count(6)", 0).due("count(10)", 9).due("undo()", 0)
            .due("play()", 3).due("count(9)", 1);
        promise(29, "They are one change, also if there are none.")
            .times(4, "pass(1)").due("play()", 0).due("count(9)", 4).due("undo()", 3).due("count(6)", 4)
            .due("undo()", 2).due("undo()", 1).due("undo()", 0).due("count(6)", 1).due("undo()", NOT_POSSIBLE);
        promise(29, "Returns how many there are in it;")
            .due("play()", 0).types("d1;").due("play()", 1).types("d1;".repeat(24) + "d01;d01;").due("count(10)", 80)
            .due("play()", 26).due("count(6)", 27).due("play()", 26).due("count(6)", 53);
        promise(29, "NOT_POSSIBLE if it has a fault.")
            .after(LOADED).types("d9;t0;c0;z1;z0;b0,0,1,0;u0,0,1;z1;z3;").due("play()", NOT_POSSIBLE)
            .due("count(6)", 0).due("count(5)", 2).due("count(9)", 4).due("lockerOf(0, 0)", 10).types("d1;d")
            .due("play()", NOT_POSSIBLE).due("count(6)", 0).types("d").due("play()", NOT_POSSIBLE).types("d0;")
            .due("play()", NOT_POSSIBLE).types("d1;").due("play()", 1).due("count(6)", 1);
    }

    private void theText() {
        terms("There is a text of at most 80 characters, initially empty: a log of orders, each followed by \";\":")
            .due("count(10)", 0).due("fault(0)", NOT_FOUND).due("play()", 0).types("d1;".repeat(25) + "d001;")
            .due("count(10)", 80).due("type(100)", LIMIT).due("play()", 26).due("count(6)", 26);
        terms("a log of orders, each followed by \";\":")
            .faulty("d1", 0, FORM, NOT_FOUND).faulty("d1;d1", 3, FORM, NOT_FOUND).faulty("d1d1;", 0, FORM, NOT_FOUND)
            .faulty(";", 0, FORM, NOT_FOUND).faulty("d1;;", 3, FORM, NOT_FOUND).faulty("d1; ", 3, FORM, NOT_FOUND)
            .types("d1;d1;").due("play()", 2);
    }

    private void formOfOrders() {
        terms("\"z\" a zone (cross)").types("z1;").due("play()", 1).due("count(5)", 1)
            .types("z0;z1;").due("play()", 2).faulty("z3;", 0, CALL, INVALID).faulty("z0,0;", 0, FORM, NOT_FOUND);
        terms("\"u\" a locker \",\" a good \",\" units (use)").after(LOADED).after(TO_SEA).types("u1,0,2;u0,1,3;")
            .due("play()", 2).due("lockerOf(1, 0)", 18).due("lockerOf(0, 1)", 27).due("cents(2)", 221)
            .faulty("u1,0;", 0, FORM, NOT_FOUND).faulty("u1,0,2,1;", 0, FORM, NOT_FOUND);
        terms("\"r\" likewise (return)").after(LOADED).types("r1,0,2;r0,1,3;").due("play()", 2)
            .due("lockerOf(1, 0)", 18).due("lockerOf(0, 1)", 27).due("cents(3)", 221)
            .faulty("r1,0;", 0, FORM, NOT_FOUND).faulty("r1,0,2,1;", 0, FORM, NOT_FOUND);
        terms("\"b\" likewise and \",\" the witnesses (break)").after(LOADED).after(TO_SEA).types("b1,0,2,0;b0,1,3,9;")
            .due("play()", 2).due("missing(1, 0)", 2).due("missing(0, 1)", 0).due("cents(4)", 21)
            .faulty("b0,1,3;", 0, FORM, NOT_FOUND).faulty("b0,1,3,9,1;", 0, FORM, NOT_FOUND)
            .faulty("b0,1,3,10;", 0, CALL, INVALID);
        terms("\"t\" a locker (tear)").after(LOADED).types("t1;").due("play()", 1).due("lockerOf(1, 8)", 2)
            .due("lockerOf(0, 8)", 1).faulty("t1,0;", 0, FORM, NOT_FOUND).faulty("t2;", 0, CALL, INVALID);
        terms("\"c\" a locker (count)").after(LOADED).types("c1;").due("play()", 1).due("seal(4, 2)", 2)
            .due("seal(5, 2)", 0).faulty("c1,0;", 0, FORM, NOT_FOUND).faulty("c2;", 0, CALL, INVALID);
        terms("or \"d\" days (they go by);").types("d60;").due("play()", 1).due("count(6)", 60)
            .faulty("d1,1;", 0, FORM, NOT_FOUND).faulty("d61;", 0, CALL, INVALID).faulty("d0;", 0, CALL, INVALID);
    }

    /** Whatever an order is cut to is not of the form, and what else stands in its place is not, either. */
    private void beginningsOfOrders() {
        String[] orders = {"z1;", "t12;", "c123;", "d1234;", "u1,22,333;", "r4444,1,1;", "b1,1,1,4444;"};
        for (String order : orders) {
            Run run = terms("its reason is 1 if it is not of this form, its \";\" included").after(LOADED);
            for (int length = 1; length < order.length(); length++) {
                run.faulty(order.substring(0, length), 0, FORM, NOT_FOUND);
            }
        }
        String[] wrong = {"Z1;", "l;", "x1;", "1;", "~1;", "e1;", "y1;", "a1;", " d1;", "d 1;", "d1 ;", "d-1;", "d+1;",
            "d1:", "d1,", "d/;", "d:;", "d1/;", "zz;", "u0.0,1;", "u0,0;1;", "u0,,1;", "u,0,1;", "u0,0,;"};
        for (String text : wrong) {
            terms("its reason is 1 if it is not of this form, its \";\" included").after(LOADED)
                .faulty(text, 0, FORM, NOT_FOUND).faulty("d1;" + text, 3, FORM, NOT_FOUND);
        }
    }

    private void numbersOfOrders() {
        terms("numbers of 1 to 4 digits, zeros in front allowed.")
            .types("d1;d01;d001;d0001;d0060;").due("play()", 5).due("count(6)", 64).faulty("d;", 0, FORM, NOT_FOUND)
            .faulty("d00001;", 0, FORM, NOT_FOUND).faulty("d12345;", 0, FORM, NOT_FOUND)
            .faulty("d9999;", 0, CALL, INVALID).faulty("d0000;", 0, CALL, INVALID);
        terms("numbers of 1 to 4 digits, zeros in front allowed.")
            .after(EMPTY).after("load(1, 1, 9999)").types("r0001,0001,9998;r1,1,0001;").due("play()", 2)
            .due("lockerOf(1, 1)", 0).due("account(1, 4)", 9999).after("load(0, 1, 9999)").types("r0,1,9999;")
            .due("play()", 1).due("cents(3)", 139986);
        terms("numbers of 1 to 4 digits, zeros in front allowed.")
            .after(LOADED).after(TO_SEA).types("b0000,0001,0030,0009;").due("play()", 1).due("cents(4)", 210)
            .faulty("b00000,1,1,1;", 0, FORM, NOT_FOUND).faulty("b0,00001,1,1;", 0, FORM, NOT_FOUND)
            .faulty("b0,1,00001,1;", 0, FORM, NOT_FOUND).faulty("b0,1,1,00001;", 0, FORM, NOT_FOUND)
            .faulty("u9999,0,1;", 0, CALL, INVALID).faulty("u0,9999,1;", 0, CALL, INVALID)
            .faulty("u0,0,9999;", 0, CALL, NOT_POSSIBLE);
    }

    private void placesOfFaults() {
        terms("The fault of the text is the position, from 0, of the first character of the first order that is not "
            + "possible, when the orders ahead of it are done;")
            .after(LOADED).faulty("z2;", 0, CALL, NOT_POSSIBLE).faulty("z1;z1;q", 3, CALL, NOT_POSSIBLE)
            .faulty("z1;q;z1;", 3, FORM, NOT_FOUND).faulty("z1;z0;u0,0,6;u0,0,5;", 13, CALL, NOT_POSSIBLE)
            .types("z1;z0;u0,0,6;u0,0,4;").due("fault(0)", NOT_FOUND).faulty("d31;r0,0,1;", 4, CALL, NOT_POSSIBLE)
            .types("d30;r0,0,1;").due("fault(0)", NOT_FOUND).due("play()", 2);
        terms("The fault of the text is the position, from 0, of the first character of the first order")
            .faulty("d1;".repeat(26) + "d", 78, FORM, NOT_FOUND).faulty("d1;".repeat(26) + "d1", 78, FORM, NOT_FOUND)
            .faulty("d1;".repeat(25) + "d061;", 75, CALL, INVALID).faulty("d" + "1".repeat(79), 0, FORM, NOT_FOUND)
            .faulty("d1;".repeat(26) + ";", 78, FORM, NOT_FOUND);
        terms("its reason is 1 if it is not of this form, its \";\" included, and otherwise 2;")
            .faulty("d0", 0, FORM, NOT_FOUND).faulty("d0;", 0, CALL, INVALID).faulty("d61", 0, FORM, NOT_FOUND)
            .faulty("d61;", 0, CALL, INVALID);
    }

    private void causesOfFaults() {
        terms("its cause is then the error code that the call returns for it.")
            .after(LOADED).faulty("z3;", 0, CALL, INVALID).faulty("z2;", 0, CALL, NOT_POSSIBLE)
            .faulty("t0;t0;", 3, CALL, NOT_POSSIBLE).faulty("u0,0,1;", 0, CALL, NOT_POSSIBLE)
            .faulty("u0,0,0;", 0, CALL, INVALID).faulty("z1;z0;b0,0,1,10;", 6, CALL, INVALID)
            .faulty("r0,0,0;", 0, CALL, INVALID).faulty("t0;r0,0,1;", 3, CALL, NOT_POSSIBLE)
            .faulty("z1;c0;", 3, CALL, NOT_POSSIBLE).faulty("c5;", 0, CALL, INVALID);
        fewSeals(terms("its cause is then the error code that the call returns for it."), 2).after("load(0, 0, 5)")
            .faulty("c0;c0;", 3, CALL, LIMIT).faulty("c0;z1;z0;z1;", 9, CALL, LIMIT)
            .faulty("r0,0,1;r0,0,1;", 7, CALL, LIMIT).faulty("r0,0,1;r0,0,5;", 7, CALL, NOT_POSSIBLE);
        late(terms("its cause is then the error code that the call returns for it."))
            .faulty("d21;", 0, CALL, LIMIT).faulty("d19;d2;", 4, CALL, LIMIT).faulty("d20;d61;", 4, CALL, INVALID)
            .types("d19;d1;").due("play()", 2).due("count(6)", 5000);
        terms("its cause is then the error code that the call returns for it.")
            .after(MOST_CENTS).after("set(0, 1)")
            .faulty("z1;z0;b0,0,2147,0;b0,1,483,0;b0,2,647,0;z1;z2;t0;c0;", 49, CALL, LIMIT)
            .types("z1;z0;b0,0,2147,0;b0,1,483,0;b0,2,647,0;z1;z2;c0;").due("play()", 8).due("cents(5)", MOST);
    }
}
