/** Promises 23 (worth), 24 (toPay). */
public final class WouldBeTest {
    private static final Checks c = new Checks("WouldBeTest");

    public static void main(String[] args) {
        worth();
        worthOfManyUnits();
        toPay();
        toPayOfOneGoodInSeveralLockers();
        toPayKeepsToTheMostCents();
        c.end();
    }

    private static void worth() {
        SealedStores x = Scenes.empty();
        c.due(x.worth(0, 1), -4);
        x.load(0, 0, 10);
        x.duty(0, 50);
        x.set(1, 4);
        x.load(0, 0, 3);
        x.duty(0, 9);
        x.load(1, 0, 2);
        c.due(x.worth(0, 1), 50);
        c.due(x.worth(0, 3), 150);
        c.due(x.worth(0, 4), 159);
        c.due(x.worth(0, 6), 268);
        c.due(x.worth(0, 15), 1168);
        c.due(x.worth(0, 16), -4);
        c.due(x.worth(1, 1), -4);
        c.due(x.worth(0, 0), -1);
        c.due(x.worth(0, 100000), -1);
        c.due(x.worth(0, 99999), -4);
        c.due(x.worth(2, 1), -1);
        c.due(x.worth(-1, 1), -1);
        c.due(x.bond(1, 2), 3);
        c.due(x.bring(0, 0, 4), 159);
        c.due(x.worth(0, 2), 109);
        c.due(x.count(9), 4);
    }

    private static void worthOfManyUnits() {
        SealedStores x = Scenes.empty();
        for (int i = 0; i < 11; i++) {
            x.load(i % 2, 1, 9999);
        }
        c.due(x.worth(1, 99999), 699993);
        c.due(x.worth(1, 100000), -1);
    }

    private static void toPay() {
        SealedStores x = Scenes.loadedAtSea();
        c.due(x.toPay(), 0);
        x.smash(0, 0, 4, 0);
        x.smash(1, 0, 6, 0);
        x.smash(0, 1, 5, 0);
        c.due(x.toPay(), 1035);
        x.cross(1);
        x.tear(0);
        c.due(x.toPay(), 6035);
        x.tear(1);
        x.set(0, 7);
        c.due(x.toPay(), 1049);
        c.due(x.count(8), 2);
        x.cross(2);
        c.due(x.toPay(), 1049);
        c.due(x.inspect(1), 607);
        c.due(x.toPay(), 442);
        c.due(x.inspect(0), 442);
        c.due(x.toPay(), 0);
        SealedStores y = Scenes.withSealsLeft(0);
        y.tear(0);
        c.due(y.inspect(0), -3);
        c.due(y.toPay(), 5000);
    }

    private static void toPayOfOneGoodInSeveralLockers() {
        SealedStores x = Scenes.empty();
        x.load(0, 0, 5);
        x.duty(0, 1);
        x.load(1, 0, 5);
        Scenes.toSea(x);
        x.smash(0, 0, 4, 0);
        x.smash(1, 0, 4, 0);
        c.due(x.toPay(), 503);
        Scenes.toPort(x);
        c.due(x.inspect(1), 400);
        c.due(x.inspect(0), 103);
    }

    private static void toPayKeepsToTheMostCents() {
        SealedStores x = Scenes.atMostCents();
        x.locker();
        x.tear(1);
        x.set(0, 1);
        Scenes.toSea(x);
        x.smash(0, 0, 2147, 0);
        x.smash(0, 1, 483, 0);
        x.smash(0, 2, 647, 0);
        c.due(x.toPay(), 2147483647);
        x.cross(1);
        c.due(x.toPay(), 2147483647);
        x.tear(1);
        c.due(x.toPay(), -3);
        x.set(0, 0);
        c.due(x.toPay(), 2147483647);
    }
}
