/** Promises 14 (tear), 15 (inspect), 16 (cross). */
public final class OfficersTest {
    private static final Checks c = new Checks("OfficersTest");

    public static void main(String[] args) {
        tears();
        countsAndTaxes();
        countsATornLocker();
        countNeedsASeal();
        countKeepsToTheMostCents();
        crossesAlongTheZones();
        crossingSealsAndOpens();
        crossingNeedsSeals();
        c.end();
    }

    private static void tears() {
        SealedStores x = Scenes.loaded();
        c.due(x.tear(1), 4);
        c.due(x.lockerOf(1, 8), 2);
        c.due(x.seal(4, 2), 3);
        c.due(x.count(8), 1);
        c.due(x.count(7), 1);
        c.due(x.tear(1), -2);
        c.due(x.tear(2), -1);
        c.due(x.tear(-1), -1);
        x.cross(1);
        c.due(x.tear(0), 5);
        c.due(x.count(8), 2);
        x.cross(0);
        c.due(x.tear(0), -2);
        c.due(x.tear(2), -1);
        c.due(x.count(4), 5);
        c.due(x.lockerOf(1, 0), 20);
    }

    private static void countsAndTaxes() {
        SealedStores x = Scenes.loadedAtSea();
        x.smash(0, 0, 4, 0);
        x.smash(0, 1, 5, 0);
        x.smash(1, 0, 6, 0);
        c.due(x.inspect(0), -2);
        x.cross(1);
        c.due(x.inspect(0), -2);
        c.due(x.inspect(2), -1);
        x.cross(2);
        x.pass(2);
        c.due(x.inspect(0), 435);
        c.due(x.missing(0, 0), 0);
        c.due(x.missing(0, 1), 0);
        c.due(x.missing(1, 0), 6);
        c.due(x.lockerOf(0, 0), 6);
        c.due(x.account(0, 6), 4);
        c.due(x.account(1, 6), 5);
        c.due(x.cents(5), 435);
        c.due(x.cents(6), 0);
        c.due(x.bond(0, 2), 6);
        c.due(x.seal(6, 2), 2);
        c.due(x.lockerOf(0, 9), 8);
        c.due(x.seal(8, 1), 2);
        c.due(x.inspect(0), 0);
        c.due(x.inspect(1), 600);
        c.due(x.cents(5), 1035);
        c.due(x.inspect(2), -1);
        c.due(x.inspect(-1), -1);
    }

    private static void countsATornLocker() {
        SealedStores x = Scenes.loadedAtSea();
        x.smash(1, 0, 2, 0);
        Scenes.toPort(x);
        x.tear(1);
        c.due(x.inspect(1), 5200);
        c.due(x.cents(6), 5000);
        c.due(x.cents(5), 200);
        c.due(x.seal(7, 2), 3);
        c.due(x.lockerOf(1, 8), 1);
        c.due(x.lockerOf(1, 9), 8);
        x.tear(1);
        x.set(0, 1);
        c.due(x.inspect(1), 1);
        c.due(x.cents(6), 5001);
        x.tear(0);
        x.set(0, 0);
        c.due(x.inspect(0), 0);
        c.due(x.count(8), 0);
    }

    private static void countNeedsASeal() {
        SealedStores x = Scenes.withSealsLeft(1);
        c.due(x.inspect(0), 0);
        x.tear(0);
        c.due(x.inspect(0), -3);
        c.due(x.cents(6), 0);
        c.due(x.lockerOf(0, 8), 2);
        x.cross(1);
        c.due(x.inspect(0), -2);
    }

    private static void countKeepsToTheMostCents() {
        SealedStores x = Scenes.atMostCents();
        Scenes.toSea(x);
        x.smash(0, 0, 2147, 0);
        x.smash(0, 1, 483, 0);
        x.smash(0, 2, 647, 0);
        Scenes.toPort(x);
        x.tear(0);
        x.set(0, 1);
        c.due(x.inspect(0), -3);
        c.due(x.toPay(), -3);
        c.due(x.missing(0, 2), 647);
        c.due(x.cents(5), 0);
        x.set(0, 0);
        c.due(x.toPay(), 2147483647);
        c.due(x.inspect(0), 2147483647);
        c.due(x.cents(5), 2147483647);
        c.due(x.cents(1), 0);
    }

    private static void crossesAlongTheZones() {
        SealedStores x = new SealedStores();
        c.due(x.cross(2), -2);
        c.due(x.cross(0), -2);
        c.due(x.cross(3), -1);
        c.due(x.cross(-1), -1);
        c.due(x.cross(1), 0);
        c.due(x.count(5), 1);
        c.due(x.cross(1), -2);
        c.due(x.cross(0), 0);
        c.due(x.cross(0), -2);
        c.due(x.cross(2), -2);
        c.due(x.count(5), 0);
        c.due(x.cross(1), 0);
        c.due(x.cross(2), 0);
        c.due(x.count(5), 2);
    }

    private static void crossingSealsAndOpens() {
        SealedStores x = Scenes.loaded();
        x.locker();
        x.tear(1);
        c.due(x.cross(1), 0);
        c.due(x.count(7), 2);
        c.due(x.cross(0), 2);
        c.due(x.count(7), 0);
        c.due(x.count(8), 0);
        c.due(x.seal(4, 2), 3);
        c.due(x.seal(5, 2), 1);
        c.due(x.seal(6, 2), 1);
        x.pass(5);
        c.due(x.cross(1), 3);
        for (int locker = 0; locker < 3; locker++) {
            c.due(x.lockerOf(locker, 9), 7 + locker);
            c.due(x.seal(7 + locker, 0), locker);
            c.due(x.seal(7 + locker, 1), 5);
            c.due(x.seal(7 + locker, 2), 0);
        }
        c.due(x.cross(0), 3);
        c.due(x.cross(1), 3);
        x.tear(0);
        x.tear(2);
        c.due(x.cross(2), 0);
        c.due(x.count(8), 2);
        c.due(x.cross(1), 0);
        c.due(x.cross(0), 1);
    }

    private static void crossingNeedsSeals() {
        SealedStores x = Scenes.withSealsLeft(3);
        x.locker();
        c.due(x.count(4), 198);
        Scenes.toSea(x);
        c.due(x.cross(1), 2);
        c.due(x.count(4), 200);
        c.due(x.cross(0), 2);
        c.due(x.cross(1), -3);
        c.due(x.cross(2), -2);
        c.due(x.count(5), 0);
        c.due(x.count(7), 0);
        SealedStores y = Scenes.withSealsLeft(2);
        y.locker();
        Scenes.toSea(y);
        c.due(y.cross(1), -3);
        c.due(y.count(4), 199);
        c.due(y.lockerOf(0, 8), 0);
    }
}
