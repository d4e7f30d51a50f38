/** Promise 5. */
public final class LoadTest {
    private static final Checks c = new Checks("LoadTest");

    public static void main(String[] args) {
        loadsAndSealsAnew();
        refusesWrongArguments();
        refusesOutsidePortAndTorn();
        refusesTheSixtyFirstBond();
        needsASeal();
        keepsToTheUnitsOfALocker();
        keepsToTheAmounts();
        c.end();
    }

    private static void loadsAndSealsAnew() {
        SealedStores x = Scenes.empty();
        x.pass(4);
        c.due(x.load(1, 0, 10), 0);
        c.due(x.lockerOf(1, 0), 10);
        c.due(x.lockerOf(0, 0), 0);
        c.due(x.seal(2, 2), 2);
        c.due(x.lockerOf(1, 8), 1);
        c.due(x.lockerOf(1, 9), 3);
        c.due(x.seal(3, 0), 1);
        c.due(x.seal(3, 1), 4);
        c.due(x.seal(1, 2), 0);
        c.due(x.load(1, 0, 9999), 1);
        c.due(x.load(1, 1, 1), 2);
        c.due(x.lockerOf(1, 0), 10009);
        c.due(x.lockerOf(1, 1), 1);
        c.due(x.bond(0, 5), 34);
        c.due(x.count(2), 3);
        c.due(x.count(4), 5);
    }

    private static void refusesWrongArguments() {
        SealedStores x = Scenes.empty();
        c.due(x.load(2, 0, 1), -1);
        c.due(x.load(-1, 0, 1), -1);
        c.due(x.load(0, 2, 1), -1);
        c.due(x.load(0, -1, 1), -1);
        c.due(x.load(0, 0, 0), -1);
        c.due(x.load(0, 0, -5), -1);
        c.due(x.load(0, 0, 10000), -1);
        c.due(x.load(Integer.MAX_VALUE, Integer.MIN_VALUE, 1), -1);
        c.due(x.count(2), 0);
        c.due(x.count(4), 2);
        Scenes.toSea(x);
        c.due(x.load(0, 0, 10000), -1);
    }

    private static void refusesOutsidePortAndTorn() {
        SealedStores x = Scenes.empty();
        x.tear(0);
        c.due(x.load(0, 0, 1), -2);
        c.due(x.load(1, 0, 1), 0);
        x.cross(1);
        c.due(x.load(1, 0, 1), -2);
        x.cross(0);
        c.due(x.load(1, 0, 1), -2);
    }

    private static void refusesTheSixtyFirstBond() {
        SealedStores x = Scenes.empty();
        for (int bond = 0; bond < 60; bond++) {
            c.due(x.load(bond % 2, 0, 1), bond);
        }
        c.due(x.load(0, 0, 1), -3);
        c.due(x.count(2), 60);
        c.due(x.lockerOf(0, 0), 30);
        c.due(x.load(0, 0, 0), -1);
        x.bring(0, 0, 5);
        c.due(x.load(0, 0, 1), -3);
        x.cross(1);
        c.due(x.load(0, 0, 1), -2);
    }

    private static void needsASeal() {
        SealedStores x = Scenes.withSealsLeft(1);
        c.due(x.load(0, 0, 1), 0);
        c.due(x.lockerOf(0, 9), 200);
        c.due(x.load(0, 0, 1), -3);
        c.due(x.lockerOf(0, 0), 1);
        c.due(x.seal(200, 2), 0);
    }

    private static void keepsToTheUnitsOfALocker() {
        SealedStores x = Scenes.empty();
        for (int i = 0; i < 10; i++) {
            x.load(0, 1, 9999);
        }
        c.due(x.lockerOf(0, 1), 99990);
        c.due(x.load(0, 1, 10), -3);
        c.due(x.load(0, 1, 9), 10);
        c.due(x.lockerOf(0, 1), 99999);
        c.due(x.load(0, 1, 1), -3);
        c.due(x.load(0, 0, 1), 11);
        c.due(x.load(1, 1, 1), 12);
        Scenes.toSea(x);
        x.smash(0, 1, 5, 0);
        Scenes.toPort(x);
        c.due(x.load(0, 1, 6), -3);
        c.due(x.load(0, 1, 5), 13);
    }

    private static void keepsToTheAmounts() {
        SealedStores x = Scenes.atMostCents();
        c.due(x.cents(0), 2147483647);
        c.due(x.load(0, 2, 1), -3);
        c.due(x.bring(0, 0, 2147), 2147000000);
        c.due(x.load(0, 2, 1), -3);
        c.due(x.load(0, 0, 9999), -3);
        c.due(x.undo(), 3);
        c.due(x.undo(), 2);
        c.due(x.load(0, 2, 648), -3);
        c.due(x.load(0, 2, 646), 2);
        c.due(x.load(0, 2, 2), -3);
        c.due(x.load(0, 2, 1), 3);
        c.due(x.cents(1), 2147483647);
    }
}
