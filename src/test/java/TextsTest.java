/** Promises 26 (type), 27 (clearText), 28 (fault), 29 (play). */
public final class TextsTest {
    private static final Checks c = new Checks("TextsTest");

    public static void main(String[] args) {
        types();
        clears();
        faultsOfForm();
        faultsOfCalls();
        faultChangesNothing();
        plays();
        playsEachOrder();
        playsWithSeals();
        readsItsNumbers();
        playIsOneChange();
        c.end();
    }

    private static void types() {
        SealedStores x = new SealedStores();
        c.due(x.type(31), -1);
        c.due(x.type(127), -1);
        c.due(x.type(-1), -1);
        c.due(x.type(Integer.MAX_VALUE), -1);
        c.due(x.type(32), 1);
        c.due(x.type(126), 2);
        for (int length = 3; length <= 80; length++) {
            c.due(x.type('d'), length);
        }
        c.due(x.type('d'), -3);
        c.due(x.type(31), -1);
        c.due(x.count(10), 80);
        c.due(x.count(9), 0);
    }

    private static void clears() {
        SealedStores x = new SealedStores();
        c.due(x.clearText(), 0);
        Scenes.type(x, "d1;d2;");
        c.due(x.clearText(), 6);
        c.due(x.count(10), 0);
        c.due(x.clearText(), 0);
        c.due(x.type('t'), 1);
        c.due(x.fault(0), 0);
        c.due(x.count(9), 0);
    }

    private static void isFault(SealedStores x, String text, int position, int reason, int cause) {
        Scenes.type(x, text);
        boolean right = x.fault(0) == position && x.fault(1) == reason && x.fault(2) == cause;
        c.holds(right, "fault of " + text + ": " + x.fault(0) + " " + x.fault(1) + " " + x.fault(2));
        c.due(x.play(), -2);
    }

    private static void faultsOfForm() {
        String[] texts = {"z", "z1", "z;", "z1,", "z1,2;", "z00001;", "Z1;", " z1;", "z 1;", "z1 ;", "z-1;", "z1:",
            "u0,0;", "u0,0,1", "u0,0,1,1;", "u0,,1;", "u,0,1;", "r0;", "b0,0,1;", "b0,0,1,1", "b0,0,1,1,1;", "t;",
            "t0,0;", "c", "c0", "d12345;", "d", "x1;", ";", "1;", "~", "l0;", "u0;0;1;"};
        for (String text : texts) {
            isFault(Scenes.loaded(), text, 0, 1, -4);
            isFault(Scenes.loaded(), "d1;" + text, 3, 1, -4);
        }
        SealedStores x = Scenes.loaded();
        isFault(x, "d1;;", 3, 1, -4);
        isFault(x, "d1;d1; ", 6, 1, -4);
        c.due(x.fault(3), -1);
        c.due(x.fault(-1), -1);
        x.clearText();
        c.due(x.fault(0), -4);
        c.due(x.fault(1), -4);
        c.due(x.fault(2), -4);
        c.due(x.fault(3), -1);
        Scenes.type(x, "d0001;");
        c.due(x.fault(0), -4);
        c.due(x.fault(1), -4);
        c.due(x.fault(2), -4);
    }

    private static void faultsOfCalls() {
        SealedStores x = Scenes.loaded();
        isFault(x, "z3;", 0, 2, -1);
        isFault(x, "z2;", 0, 2, -2);
        isFault(x, "d0;", 0, 2, -1);
        isFault(x, "d61;", 0, 2, -1);
        isFault(x, "d9999;", 0, 2, -1);
        isFault(x, "t2;", 0, 2, -1);
        isFault(x, "t0;t0;", 3, 2, -2);
        isFault(x, "u0,0,1;", 0, 2, -2);
        isFault(x, "z1;z0;u0,0,11;", 6, 2, -2);
        isFault(x, "z1;z0;u0,0,6;u0,0,5;", 13, 2, -2);
        isFault(x, "z1;z0;b0,0,1,10;", 6, 2, -1);
        isFault(x, "r0,0,0;", 0, 2, -1);
        isFault(x, "t0;r0,0,1;", 3, 2, -2);
        isFault(x, "z1;c0;", 3, 2, -2);
        isFault(x, "d31;r0,0,1;", 4, 2, -2);
        isFault(x, "z1;z1;q", 3, 2, -2);
        isFault(x, "z1;q;z1;", 3, 1, -4);
        SealedStores y = Scenes.withSealsLeft(1);
        isFault(y, "c0;c0;", 3, 2, -3);
        isFault(y, "c0;z1;z0;z1;", 9, 2, -3);
    }

    private static void faultChangesNothing() {
        SealedStores x = Scenes.loaded();
        Scenes.type(x, "d9;t0;c0;z1;z0;b0,0,1,0;u0,0,1;z1;z3;");
        c.due(x.fault(0), 34);
        c.due(x.play(), -2);
        c.due(x.count(6), 0);
        c.due(x.count(5), 2);
        c.due(x.count(4), 5);
        c.due(x.cents(6), 0);
        c.due(x.lockerOf(0, 0), 10);
        c.due(x.missing(0, 0), 0);
        c.due(x.bond(0, 2), 10);
        c.due(x.count(9), 4);
        c.due(x.count(10), 37);
    }

    private static void plays() {
        SealedStores x = Scenes.loaded();
        Scenes.type(x, "d9;d01;d0002;");
        c.due(x.play(), 3);
        c.due(x.count(6), 12);
        c.due(x.count(10), 13);
        c.due(x.play(), 3);
        c.due(x.count(6), 24);
        Scenes.type(x, "d8;d");
        c.due(x.play(), -2);
        c.due(x.count(6), 24);
        SealedStores y = new SealedStores();
        Scenes.type(y, "d1;d1;d1;d1;d1;d1;d1;d1;d1;d1;d1;d1;d1;d1;d1;d1;d1;d1;d1;d1;d1;d1;d1;d1;d1;d1;d1");
        c.due(y.count(10), 80);
        c.due(y.fault(0), 78);
        Scenes.type(y, "d1;d1;d1;d1;d1;d1;d1;d1;d1;d1;d1;d1;d1;d1;d1;d1;d1;d1;d1;d1;d1;d1;d1;d1;d1;d01;");
        c.due(y.play(), 26);
        c.due(y.count(6), 26);
    }

    private static void playsEachOrder() {
        SealedStores x = Scenes.loaded();
        Scenes.type(x, "r0,0,1;z1;z0;u1,0,2;b1,0,3,4;b0,1,5,0;z1;t1;z2;c0;d2;");
        c.due(x.play(), 11);
        c.due(x.account(0, 4), 1);
        c.due(x.account(0, 3), 2);
        c.due(x.account(0, 5), 3);
        c.due(x.account(1, 6), 5);
        c.due(x.lockerOf(0, 0), 9);
        c.due(x.lockerOf(1, 0), 15);
        c.due(x.lockerOf(0, 1), 25);
        c.due(x.lockerOf(1, 8), 2);
        c.due(x.lockerOf(0, 8), 1);
        c.due(x.count(6), 2);
        c.due(x.count(5), 2);
        c.due(x.cents(6), 0);
        c.due(x.cents(5), 35);
        c.due(x.count(4), 9);
    }

    private static void playsWithSeals() {
        SealedStores x = Scenes.empty();
        Scenes.type(x, "d4;z1;z0;d3;z1;t1;z2;d2;c0;");
        c.due(x.play(), 9);
        c.due(x.count(4), 5);
        int[] lockers = {0, 1, 0, 1, 0};
        int[] days = {0, 0, 7, 7, 9};
        int[] fates = {1, 1, 2, 3, 0};
        for (int seal = 1; seal <= 5; seal++) {
            c.due(x.seal(seal, 0), lockers[seal - 1]);
            c.due(x.seal(seal, 1), days[seal - 1]);
            c.due(x.seal(seal, 2), fates[seal - 1]);
        }
        c.due(x.lockerOf(0, 9), 5);
        c.due(x.lockerOf(1, 8), 2);
    }

    private static void readsItsNumbers() {
        SealedStores x = Scenes.loaded();
        Scenes.type(x, "r1,0,12;r0,1,11;d0034;");
        c.due(x.play(), 3);
        c.due(x.count(6), 34);
        c.due(x.account(0, 4), 12);
        c.due(x.account(1, 4), 11);
        SealedStores y = Scenes.empty();
        y.load(1, 1, 9999);
        Scenes.type(y, "r1,1,8765;r1,1,1234;");
        c.due(y.play(), 2);
        c.due(y.lockerOf(1, 1), 0);
        c.due(y.cents(3), 9999 * 7);
    }

    private static void playIsOneChange() {
        SealedStores x = new SealedStores();
        c.due(x.play(), 0);
        c.due(x.count(9), 1);
        Scenes.type(x, "z1;d5;");
        c.due(x.play(), 2);
        c.due(x.count(9), 2);
        c.due(x.undo(), 1);
        c.due(x.count(5), 2);
        c.due(x.count(6), 0);
        c.due(x.count(10), 6);
        c.due(x.undo(), 0);
        c.due(x.undo(), -2);
        c.due(x.play(), 2);
        c.due(x.play(), -2);
        c.due(x.fault(2), -2);
        c.due(x.count(9), 1);
    }
}
