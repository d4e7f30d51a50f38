/** Promises 18 (set), 19 (account), 20 (cents), 21 (count), 22 (undo). */
public final class AccountsTest {
    private static final Checks c = new Checks("AccountsTest");

    public static void main(String[] args) {
        settings();
        accounts();
        cents();
        counts();
        undoes();
        keepsFourStates();
        errorsAreNoChanges();
        undoRestoresEverything();
        countsBondsWithOneUnit();
        c.end();
    }

    private static void settings() {
        SealedStores x = Scenes.empty();
        c.due(x.set(0, 0), 5000);
        c.due(x.set(0, 100000), 0);
        c.due(x.set(0, 100001), -1);
        c.due(x.set(0, -1), -1);
        c.due(x.set(1, 1), 30);
        c.due(x.set(1, 99), 1);
        c.due(x.set(1, 0), -1);
        c.due(x.set(1, 100), -1);
        c.due(x.set(2, 5), -1);
        c.due(x.set(-1, 5), -1);
        c.due(x.count(20), 100000);
        c.due(x.count(21), 99);
        x.load(0, 0, 1);
        c.due(x.bond(0, 5), 99);
        x.tear(0);
        c.due(x.inspect(0), 100000);
    }

    private static void accounts() {
        SealedStores x = Scenes.loaded();
        x.bring(0, 0, 1);
        Scenes.toSea(x);
        x.use(1, 0, 2);
        x.smash(1, 0, 3, 4);
        x.smash(0, 0, 4, 0);
        x.smash(1, 0, 5, 0);
        Scenes.toPort(x);
        x.inspect(0);
        int[] wanted = {30, 15, 5, 2, 1, 3, 4};
        for (int what = 0; what <= 6; what++) {
            c.due(x.account(0, what), wanted[what]);
        }
        c.due(x.account(1, 0), 30);
        c.due(x.account(1, 1), 30);
        for (int what = 2; what <= 6; what++) {
            c.due(x.account(1, what), 0);
        }
        c.due(x.account(0, 7), -1);
        c.due(x.account(0, -1), -1);
        c.due(x.account(2, 0), -1);
        c.due(x.account(-1, 0), -1);
        x.load(0, 0, 8);
        c.due(x.account(0, 0), 38);
    }

    private static void cents() {
        SealedStores x = Scenes.loaded();
        x.bring(0, 0, 1);
        Scenes.toSea(x);
        x.use(1, 0, 2);
        x.smash(1, 0, 3, 4);
        x.smash(0, 0, 4, 0);
        Scenes.toPort(x);
        x.tear(0);
        x.inspect(0);
        int[] wanted = {3210, 2210, 200, 100, 300, 400, 5000};
        for (int what = 0; what <= 6; what++) {
            c.due(x.cents(what), wanted[what]);
        }
        c.due(x.cents(7), -1);
        c.due(x.cents(-1), -1);
    }

    private static void counts() {
        SealedStores x = Scenes.loaded();
        x.bring(0, 0, 10);
        x.tear(1);
        x.set(0, 12);
        x.set(1, 34);
        x.pass(3);
        Scenes.type(x, "abc");
        int[] wanted = {2, 2, 3, 2, 6, 2, 3, 1, 1, 4, 3};
        for (int what = 0; what <= 10; what++) {
            c.due(x.count(what), wanted[what]);
        }
        c.due(x.count(20), 12);
        c.due(x.count(21), 34);
        int[] wrong = {-1, 11, 19, 22, Integer.MAX_VALUE, Integer.MIN_VALUE};
        for (int what : wrong) {
            c.due(x.count(what), -1);
        }
    }

    private static void undoes() {
        SealedStores x = new SealedStores();
        c.due(x.undo(), -2);
        x.locker();
        c.due(x.count(9), 1);
        x.good(5);
        c.due(x.count(9), 2);
        c.due(x.undo(), 1);
        c.due(x.count(1), 0);
        c.due(x.count(0), 1);
        c.due(x.undo(), 0);
        c.due(x.count(0), 0);
        c.due(x.count(4), 0);
        c.due(x.undo(), -2);
        c.due(x.locker(), 0);
        c.due(x.count(9), 1);
    }

    private static void keepsFourStates() {
        SealedStores x = new SealedStores();
        for (int days = 1; days <= 7; days++) {
            x.pass(1);
            c.due(x.count(9), Math.min(days, 4));
        }
        c.due(x.undo(), 3);
        c.due(x.count(6), 6);
        c.due(x.undo(), 2);
        x.pass(10);
        c.due(x.count(6), 15);
        c.due(x.count(9), 3);
        c.due(x.undo(), 2);
        c.due(x.count(6), 5);
        c.due(x.undo(), 1);
        c.due(x.undo(), 0);
        c.due(x.count(6), 3);
        c.due(x.undo(), -2);
    }

    private static void errorsAreNoChanges() {
        SealedStores x = new SealedStores();
        x.good(0);
        x.duty(0, 1);
        x.load(0, 0, 1);
        x.use(0, 0, 1);
        x.bring(0, 0, 1);
        x.smash(0, 0, 1, 1);
        x.tear(0);
        x.inspect(0);
        x.cross(2);
        x.pass(0);
        x.set(2, 0);
        x.type('u');
        x.play();
        x.fault(0);
        x.worth(0, 1);
        x.toPay();
        x.clearText();
        c.due(x.count(9), 0);
    }

    private static void undoRestoresEverything() {
        SealedStores x = Scenes.loadedAtSea();
        x.smash(0, 0, 2, 0);
        x.undo();
        c.due(x.missing(0, 0), 0);
        c.due(x.lockerOf(0, 0), 10);
        x.use(0, 0, 2);
        x.undo();
        c.due(x.bond(0, 2), 10);
        c.due(x.account(0, 3), 0);
        c.due(x.cents(2), 0);
        x.cross(1);
        x.tear(0);
        x.undo();
        c.due(x.seal(6, 2), 0);
        c.due(x.lockerOf(0, 8), 1);
        x.undo();
        c.due(x.count(5), 0);
        c.due(x.count(4), 5);
        c.due(x.seal(5, 2), 1);
        Scenes.toPort(x);
        x.tear(0);
        x.inspect(0);
        x.undo();
        c.due(x.cents(6), 0);
        x.duty(0, 3);
        x.undo();
        c.due(x.duty(0, 4), 100);
        x.set(1, 3);
        x.undo();
        c.due(x.count(21), 30);
        x.load(1, 1, 5);
        x.undo();
        c.due(x.count(2), 3);
        c.due(x.cents(0), 3210);
        x.pass(60);
        Scenes.type(x, "d1;");
        x.undo();
        c.due(x.count(6), 0);
        c.due(x.count(3), 3);
        c.due(x.count(10), 3);
    }

    private static void countsBondsWithOneUnit() {
        SealedStores x = Scenes.loaded();
        x.bring(0, 0, 9);
        c.due(x.count(3), 3);
        x.bring(0, 0, 1);
        c.due(x.count(3), 2);
    }
}
