/** Promises 17 (pass), 25 (runsOut). */
public final class DaysTest {
    private static final Checks c = new Checks("DaysTest");

    public static void main(String[] args) {
        passesAndRefuses();
        bondsRunOutTheDayAfterTheyAreDue();
        takesTheMissingFirst();
        takesGoodByGood();
        lastDay();
        runsOut();
        c.end();
    }

    private static void passesAndRefuses() {
        SealedStores x = Scenes.loaded();
        c.due(x.pass(0), -1);
        c.due(x.pass(-1), -1);
        c.due(x.pass(61), -1);
        c.due(x.count(6), 0);
        c.due(x.pass(1), 0);
        c.due(x.count(6), 1);
        c.due(x.pass(60), 1000 + 2000 + 210);
        c.due(x.count(6), 61);
    }

    private static void bondsRunOutTheDayAfterTheyAreDue() {
        SealedStores x = Scenes.loaded();
        c.due(x.pass(30), 0);
        c.due(x.count(3), 3);
        x.set(1, 1);
        x.load(1, 1, 2);
        c.due(x.pass(1), 3210);
        c.due(x.count(3), 1);
        c.due(x.account(0, 6), 30);
        c.due(x.account(1, 6), 30);
        c.due(x.cents(5), 3210);
        c.due(x.cents(1), 14);
        c.due(x.lockerOf(0, 10), 0);
        c.due(x.lockerOf(1, 10), 2);
        c.due(x.pass(1), 14);
        c.due(x.account(1, 6), 32);
        c.due(x.lockerOf(1, 8), 1);
        c.due(x.count(4), 6);
        c.due(x.pass(60), 0);
    }

    private static void takesTheMissingFirst() {
        SealedStores x = Scenes.empty();
        x.locker();
        x.load(0, 0, 10);
        x.load(1, 0, 10);
        x.load(2, 0, 10);
        x.duty(0, 1);
        x.set(1, 5);
        x.load(2, 0, 13);
        Scenes.toSea(x);
        x.smash(1, 0, 4, 0);
        x.smash(2, 0, 6, 0);
        c.due(x.pass(5), 0);
        c.due(x.pass(1), 13);
        c.due(x.missing(1, 0), 0);
        c.due(x.missing(2, 0), 0);
        c.due(x.lockerOf(0, 0), 7);
        c.due(x.lockerOf(1, 0), 6);
        c.due(x.lockerOf(2, 0), 17);
        x.undo();
        x.use(2, 0, 5);
        c.due(x.pass(1), 8);
        c.due(x.missing(1, 0), 0);
        c.due(x.missing(2, 0), 2);
        c.due(x.lockerOf(0, 0), 10);
        c.due(x.pass(30), 3000);
        c.due(x.account(0, 1), 0);
        c.due(x.account(0, 2), 0);
    }

    private static void takesGoodByGood() {
        SealedStores x = Scenes.empty();
        x.set(1, 2);
        x.load(0, 0, 3);
        x.load(1, 1, 4);
        x.set(1, 9);
        x.load(0, 1, 5);
        x.load(1, 0, 6);
        Scenes.toSea(x);
        x.smash(0, 1, 1, 0);
        c.due(x.pass(3), 328);
        c.due(x.missing(0, 1), 0);
        c.due(x.lockerOf(0, 0), 0);
        c.due(x.lockerOf(0, 1), 1);
        c.due(x.lockerOf(1, 1), 4);
        c.due(x.lockerOf(1, 0), 6);
        c.due(x.account(0, 6), 3);
        c.due(x.account(1, 6), 4);
    }

    private static void lastDay() {
        SealedStores x = new SealedStores();
        for (int i = 0; i < 83; i++) {
            x.pass(60);
        }
        c.due(x.count(6), 4980);
        c.due(x.pass(21), -3);
        c.due(x.pass(61), -1);
        c.due(x.pass(20), 0);
        c.due(x.count(6), 5000);
        c.due(x.pass(1), -3);
        x.locker();
        x.good(1);
        x.load(0, 0, 1);
        c.due(x.runsOut(), 31);
    }

    private static void runsOut() {
        SealedStores x = Scenes.empty();
        c.due(x.runsOut(), -4);
        x.load(0, 0, 5);
        c.due(x.runsOut(), 31);
        x.set(1, 2);
        x.load(1, 1, 5);
        c.due(x.runsOut(), 3);
        x.pass(1);
        c.due(x.runsOut(), 2);
        x.pass(1);
        c.due(x.runsOut(), 1);
        x.pass(1);
        c.due(x.runsOut(), 28);
        x.bring(0, 0, 5);
        c.due(x.runsOut(), -4);
    }
}
