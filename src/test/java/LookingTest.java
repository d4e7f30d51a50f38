/** Promises 6 (lockerOf), 7 (missing), 8 (seal), 9 (bond), 10 (nextBond). */
public final class LookingTest {
    private static final Checks c = new Checks("LookingTest");

    public static void main(String[] args) {
        lockers();
        lockersOfEightGoods();
        missing();
        seals();
        bonds();
        nextBonds();
        c.end();
    }

    private static void lockers() {
        SealedStores x = Scenes.loaded();
        c.due(x.lockerOf(0, 0), 10);
        c.due(x.lockerOf(0, 1), 30);
        c.due(x.lockerOf(0, 2), -1);
        c.due(x.lockerOf(0, 7), -1);
        c.due(x.lockerOf(0, 10), 40);
        c.due(x.lockerOf(1, 10), 20);
        c.due(x.lockerOf(0, 11), 0);
        c.due(x.lockerOf(0, 12), -1);
        c.due(x.lockerOf(0, -1), -1);
        c.due(x.lockerOf(0, Integer.MIN_VALUE), -1);
        c.due(x.lockerOf(2, 8), -1);
        c.due(x.lockerOf(-1, 8), -1);
        c.due(x.lockerOf(2, 9), -1);
        c.due(x.lockerOf(0, 8), 1);
        c.due(x.lockerOf(0, 9), 5);
        c.due(x.lockerOf(1, 9), 4);
        x.tear(0);
        c.due(x.lockerOf(0, 8), 2);
        c.due(x.lockerOf(0, 9), -4);
        Scenes.toSea(x);
        c.due(x.lockerOf(0, 8), 0);
        c.due(x.lockerOf(1, 8), 0);
        c.due(x.lockerOf(1, 9), -4);
        x.smash(0, 0, 2, 0);
        x.smash(0, 1, 3, 0);
        c.due(x.lockerOf(0, 0), 8);
        c.due(x.lockerOf(0, 10), 35);
        c.due(x.lockerOf(0, 11), 5);
        c.due(x.lockerOf(1, 11), 0);
    }

    private static void lockersOfEightGoods() {
        SealedStores x = Scenes.empty();
        for (int good = 2; good < 8; good++) {
            x.good(good);
        }
        x.load(1, 7, 5);
        c.due(x.lockerOf(1, 7), 5);
        c.due(x.lockerOf(0, 7), 0);
        c.due(x.lockerOf(1, 10), 5);
        c.due(x.lockerOf(0, 12), -1);
        c.due(x.lockerOf(0, -1), -1);
        c.due(x.missing(1, 8), -1);
        c.due(x.account(7, 1), 5);
        c.due(x.account(8, 1), -1);
        x.undo();
        c.due(x.lockerOf(1, 7), 0);
        c.due(x.account(7, 1), 0);
        x.load(1, 7, 5);
        c.due(x.bring(1, 7, 2), 14);
        c.due(x.account(7, 4), 2);
        x.undo();
        c.due(x.account(7, 4), 0);
        c.due(x.lockerOf(1, 7), 5);
    }

    private static void missing() {
        SealedStores x = Scenes.loadedAtSea();
        x.smash(0, 0, 2, 0);
        x.smash(0, 0, 1, 0);
        x.smash(1, 0, 4, 0);
        x.smash(0, 1, 9, 1);
        c.due(x.missing(0, 0), 3);
        c.due(x.missing(1, 0), 4);
        c.due(x.missing(0, 1), 0);
        c.due(x.missing(0, 2), -1);
        c.due(x.missing(0, -1), -1);
        c.due(x.missing(2, 0), -1);
        c.due(x.missing(-1, 0), -1);
    }

    private static void seals() {
        SealedStores x = Scenes.empty();
        c.due(x.seal(0, 0), -1);
        c.due(x.seal(-1, 0), -1);
        c.due(x.seal(3, 0), -1);
        c.due(x.seal(2, 3), -1);
        c.due(x.seal(2, -1), -1);
        c.due(x.seal(200, 0), -1);
        c.due(x.seal(201, 0), -1);
        c.due(x.seal(1, 2), 0);
        x.inspect(0);
        c.due(x.seal(1, 2), 2);
        x.tear(1);
        c.due(x.seal(2, 2), 3);
        Scenes.toSea(x);
        c.due(x.seal(3, 2), 1);
        c.due(x.seal(2, 2), 3);
        c.due(x.seal(1, 2), 2);
        x.pass(7);
        Scenes.toPort(x);
        c.due(x.seal(4, 0), 0);
        c.due(x.seal(5, 0), 1);
        c.due(x.seal(5, 1), 7);
        c.due(x.seal(2, 1), 0);
        c.due(x.seal(2, 0), 1);
        x.undo();
        x.undo();
        c.due(x.seal(4, 0), -1);
    }

    private static void bonds() {
        SealedStores x = Scenes.empty();
        x.pass(2);
        x.load(1, 1, 6);
        x.set(1, 9);
        x.pass(1);
        x.load(0, 0, 4);
        int[] first = {1, 6, 6, 7, 42, 32};
        int[] second = {0, 4, 4, 100, 400, 12};
        for (int what = 0; what < 6; what++) {
            c.due(x.bond(0, what), first[what]);
            c.due(x.bond(1, what), second[what]);
        }
        c.due(x.bond(0, 6), -1);
        c.due(x.bond(0, -1), -1);
        c.due(x.bond(2, 0), -1);
        c.due(x.bond(-1, 0), -1);
        x.bring(1, 1, 4);
        c.due(x.bond(0, 1), 6);
        c.due(x.bond(0, 2), 2);
        c.due(x.bond(0, 3), 7);
        c.due(x.bond(0, 4), 14);
    }

    private static void nextBonds() {
        SealedStores x = Scenes.empty();
        c.due(x.nextBond(0), -4);
        c.due(x.nextBond(2), -1);
        c.due(x.nextBond(-1), -1);
        x.load(0, 0, 5);
        x.load(0, 0, 5);
        x.load(0, 1, 5);
        c.due(x.nextBond(0), 0);
        c.due(x.nextBond(1), 2);
        x.set(1, 3);
        x.load(1, 0, 2);
        x.load(1, 0, 2);
        c.due(x.nextBond(0), 3);
        x.bring(1, 0, 1);
        c.due(x.nextBond(0), 3);
        x.bring(1, 0, 1);
        c.due(x.nextBond(0), 4);
        x.bring(1, 0, 2);
        c.due(x.nextBond(0), 0);
        x.bring(0, 0, 6);
        c.due(x.nextBond(0), 1);
        x.bring(0, 0, 4);
        c.due(x.nextBond(0), -4);
        c.due(x.nextBond(1), 2);
    }
}
