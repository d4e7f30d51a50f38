/** Promise 1. */
public final class NewObjectTest {
    public static void main(String[] args) {
        Checks c = new Checks("NewObjectTest");
        SealedStores x = new SealedStores();
        int[] zeros = {0, 1, 2, 3, 4, 6, 7, 8, 9, 10};
        for (int what : zeros) {
            c.due(x.count(what), 0);
        }
        c.due(x.count(5), 2);
        c.due(x.count(20), 5000);
        c.due(x.count(21), 30);
        for (int what = 0; what <= 6; what++) {
            c.due(x.cents(what), 0);
        }
        c.due(x.toPay(), 0);
        c.due(x.runsOut(), -4);
        c.due(x.undo(), -2);
        c.due(x.lockerOf(0, 8), -1);
        c.due(x.bond(0, 0), -1);
        c.due(x.seal(1, 0), -1);
        c.due(x.account(0, 0), -1);
        c.due(x.cross(0), -2);
        SealedStores other = new SealedStores();
        x.locker();
        c.due(other.count(0), 0);
        c.end();
    }
}
