/** Promises 11 (use), 12 (bring), 13 (smash). */
public final class ReleasingTest {
    private static final Checks c = new Checks("ReleasingTest");

    public static void main(String[] args) {
        usesFromTheBondsInTurn();
        usesOnTheSeaAlone();
        bringsInPortAlone();
        bringNeedsASeal();
        breaksWithAndWithoutWitnesses();
        breaksOnTheSeaAlone();
        c.end();
    }

    private static void usesFromTheBondsInTurn() {
        SealedStores x = Scenes.empty();
        x.load(0, 0, 10);
        x.duty(0, 50);
        x.set(1, 4);
        x.load(0, 0, 3);
        x.duty(0, 9);
        x.load(1, 0, 2);
        x.load(0, 1, 8);
        Scenes.toSea(x);
        c.due(x.use(0, 0, 4), 3 * 50 + 9);
        c.due(x.bond(1, 2), 0);
        c.due(x.bond(2, 2), 1);
        c.due(x.bond(0, 2), 10);
        c.due(x.lockerOf(0, 0), 9);
        c.due(x.lockerOf(1, 0), 2);
        c.due(x.use(1, 0, 2), 9 + 100);
        c.due(x.use(0, 0, 9), 900);
        c.due(x.account(0, 3), 15);
        c.due(x.account(1, 3), 0);
        c.due(x.cents(2), 159 + 109 + 900);
        c.due(x.cents(1), 56);
        c.due(x.count(4), 6);
        c.due(x.use(0, 0, 1), -2);
    }

    private static void usesOnTheSeaAlone() {
        SealedStores x = Scenes.loaded();
        c.due(x.use(0, 0, 1), -2);
        x.cross(1);
        c.due(x.use(0, 0, 1), -2);
        c.due(x.use(0, 0, 0), -1);
        x.cross(0);
        c.due(x.use(0, 0, 11), -2);
        c.due(x.use(1, 1, 1), -2);
        c.due(x.use(0, 0, 0), -1);
        c.due(x.use(0, 0, 10000), -1);
        c.due(x.use(0, 2, 1), -1);
        c.due(x.use(2, 0, 1), -1);
        c.due(x.use(-1, 0, 1), -1);
        c.due(x.use(0, -1, 1), -1);
        c.due(x.use(0, 0, 10), 1000);
        c.due(x.lockerOf(0, 0), 0);
    }

    private static void bringsInPortAlone() {
        SealedStores x = Scenes.loaded();
        c.due(x.bring(0, 0, 4), 400);
        c.due(x.lockerOf(0, 0), 6);
        c.due(x.account(0, 4), 4);
        c.due(x.cents(3), 400);
        c.due(x.seal(5, 2), 2);
        c.due(x.lockerOf(0, 9), 6);
        c.due(x.lockerOf(0, 8), 1);
        c.due(x.bring(0, 0, 7), -2);
        c.due(x.bring(0, 0, 0), -1);
        c.due(x.bring(0, 0, 10000), -1);
        c.due(x.bring(2, 0, 1), -1);
        c.due(x.bring(0, 2, 1), -1);
        c.due(x.count(4), 6);
        x.tear(1);
        c.due(x.bring(1, 0, 1), -2);
        c.due(x.bring(0, 0, 6), 600);
        x.cross(1);
        c.due(x.bring(0, 1, 1), -2);
        x.cross(0);
        c.due(x.bring(0, 1, 1), -2);
        c.due(x.lockerOf(0, 1), 30);
    }

    private static void bringNeedsASeal() {
        SealedStores x = Scenes.withSealsLeft(2);
        x.load(0, 0, 5);
        c.due(x.bring(0, 0, 2), 2);
        c.due(x.bring(0, 0, 2), -3);
        c.due(x.bring(0, 0, 4), -2);
        c.due(x.bring(0, 0, 0), -1);
        c.due(x.lockerOf(0, 0), 3);
        c.due(x.cents(3), 2);
    }

    private static void breaksWithAndWithoutWitnesses() {
        SealedStores x = Scenes.loadedAtSea();
        c.due(x.smash(0, 0, 3, 1), 300);
        c.due(x.smash(0, 1, 2, 9), 14);
        c.due(x.account(0, 5), 3);
        c.due(x.cents(4), 314);
        c.due(x.lockerOf(0, 0), 7);
        c.due(x.missing(0, 0), 0);
        c.due(x.smash(0, 0, 5, 0), 0);
        c.due(x.lockerOf(0, 0), 2);
        c.due(x.missing(0, 0), 5);
        c.due(x.account(0, 5), 3);
        c.due(x.bond(0, 2), 7);
        c.due(x.cents(4), 314);
        c.due(x.smash(0, 0, 3, 0), -2);
        c.due(x.smash(0, 0, 3, 1), -2);
        c.due(x.smash(0, 0, 2, 0), 0);
        c.due(x.missing(0, 0), 7);
    }

    private static void breaksOnTheSeaAlone() {
        SealedStores x = Scenes.loaded();
        c.due(x.smash(0, 0, 1, 1), -2);
        x.cross(1);
        c.due(x.smash(0, 0, 1, 0), -2);
        c.due(x.smash(0, 0, 1, 10), -1);
        x.cross(0);
        c.due(x.smash(0, 0, 1, 10), -1);
        c.due(x.smash(0, 0, 1, -1), -1);
        c.due(x.smash(0, 0, 0, 1), -1);
        c.due(x.smash(0, 0, 10000, 1), -1);
        c.due(x.smash(0, 2, 1, 1), -1);
        c.due(x.smash(2, 0, 1, 1), -1);
        c.due(x.smash(1, 1, 1, 1), -2);
        c.due(x.lockerOf(0, 10), 40);
    }
}
