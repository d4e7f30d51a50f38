/** Promises 2 (locker), 3 (good), 4 (duty). */
public final class LockersAndGoodsTest {
    private static final Checks c = new Checks("LockersAndGoodsTest");

    public static void main(String[] args) {
        lockersAreSealedInOrder();
        lockersAreAddedInPortAlone();
        lockersNeedSeals();
        goods();
        duties();
        c.end();
    }

    private static void lockersAreSealedInOrder() {
        SealedStores x = new SealedStores();
        x.pass(3);
        for (int locker = 0; locker < 5; locker++) {
            c.due(x.locker(), locker);
            c.due(x.lockerOf(locker, 8), 1);
            c.due(x.lockerOf(locker, 9), locker + 1);
            c.due(x.lockerOf(locker, 10), 0);
            c.due(x.seal(locker + 1, 0), locker);
            c.due(x.seal(locker + 1, 1), 3);
            c.due(x.seal(locker + 1, 2), 0);
        }
        c.due(x.locker(), -3);
        c.due(x.count(0), 5);
        c.due(x.count(4), 5);
        c.due(x.count(7), 5);
        x.cross(1);
        c.due(x.locker(), -2);
    }

    private static void lockersAreAddedInPortAlone() {
        SealedStores x = new SealedStores();
        x.cross(1);
        c.due(x.locker(), -2);
        x.cross(0);
        c.due(x.locker(), -2);
        Scenes.toPort(x);
        c.due(x.locker(), 0);
        c.due(x.count(0), 1);
    }

    private static void lockersNeedSeals() {
        SealedStores x = Scenes.withSealsLeft(1);
        c.due(x.locker(), 1);
        c.due(x.lockerOf(1, 9), 200);
        c.due(x.locker(), -3);
        c.due(x.count(0), 2);
        c.due(x.count(4), 200);
    }

    private static void goods() {
        SealedStores x = new SealedStores();
        c.due(x.good(0), -1);
        c.due(x.good(-1), -1);
        c.due(x.good(1000001), -1);
        c.due(x.good(Integer.MAX_VALUE), -1);
        c.due(x.good(Integer.MIN_VALUE), -1);
        c.due(x.count(9), 0);
        c.due(x.good(1), 0);
        c.due(x.good(1000000), 1);
        for (int good = 2; good < 8; good++) {
            x.cross(good % 2 == 0 ? 1 : 0);
            c.due(x.good(good), good);
        }
        c.due(x.count(1), 8);
        c.due(x.good(5), -3);
        c.due(x.good(0), -1);
        c.due(x.count(1), 8);
    }

    private static void duties() {
        SealedStores x = Scenes.loaded();
        c.due(x.duty(0, 200), 100);
        c.due(x.duty(0, 200), 200);
        c.due(x.duty(1, 1), 7);
        c.due(x.duty(1, 1000000), 1);
        c.due(x.duty(1, 0), -1);
        c.due(x.duty(1, 1000001), -1);
        c.due(x.duty(2, 5), -1);
        c.due(x.duty(-1, 5), -1);
        c.due(x.duty(1, 7), 1000000);
        c.due(x.bond(0, 3), 100);
        c.due(x.bond(0, 4), 1000);
        c.due(x.load(0, 0, 3), 3);
        c.due(x.bond(3, 3), 200);
        c.due(x.bond(3, 4), 600);
        c.due(x.bring(0, 0, 10), 1000);
    }
}
