import java.util.ArrayList;
import java.util.List;

/**
 * All that can be seen of the state to which a run of calls leads, its history included. The run is made again on new
 * objects, so that looking may change them and none of them gets more calls than the document allows.
 */
final class Look {
    private static final int MOST_CALLS = 512;
    private static final int LEAST_ROOM = 20;

    private final List<Call> calls;
    private final List<Integer> told = new ArrayList<>();
    private SealedStores x;
    private int made;

    private Look(List<Call> calls) {
        this.calls = calls;
        if (calls.size() > MOST_CALLS - LEAST_ROOM) {
            throw new IllegalStateException("the run is too long to look at it: " + calls.size() + " calls");
        }
        begin();
    }

    /** What is told of the state, and of each state to which undoing leads. */
    static List<Integer> everything(List<Call> calls) {
        List<Integer> told = new ArrayList<>();
        List<Call> undone = new ArrayList<>(calls);
        SealedStores x = new Look(calls).x;
        int states = x.count(9);
        for (int i = 0; i <= states; i++) {
            told.addAll(oneState(undone));
            undone.add(new Call("undo()"));
        }
        if (x.count(10) > 0) {
            List<Call> played = new ArrayList<>(calls);
            played.add(new Call("play()"));
            told.addAll(oneState(played));
        }
        return told;
    }

    private static List<Integer> oneState(List<Call> calls) {
        Look look = new Look(calls);
        look.numbers();
        look.lockers();
        look.goods();
        look.seals();
        look.bonds();
        look.whatOnlyAChangeTells();
        return look.told;
    }

    private void begin() {
        x = new SealedStores();
        for (Call call : calls) {
            call.on(x);
        }
        made = calls.size();
    }

    /** The object for one more call. */
    private SealedStores x() {
        if (made == MOST_CALLS) {
            begin();
        }
        made++;
        return x;
    }

    private void numbers() {
        for (int what = 0; what <= 10; what++) {
            told.add(x().count(what));
        }
        told.add(x().count(20));
        told.add(x().count(21));
        for (int what = 0; what <= 6; what++) {
            told.add(x().cents(what));
        }
        told.add(x().toPay());
        told.add(x().runsOut());
        for (int what = 0; what <= 2; what++) {
            told.add(x().fault(what));
        }
    }

    private void lockers() {
        int lockers = x().count(0);
        int goods = x().count(1);
        for (int locker = 0; locker < lockers; locker++) {
            for (int what = 8; what <= 11; what++) {
                told.add(x().lockerOf(locker, what));
            }
            for (int good = 0; good < goods; good++) {
                told.add(x().lockerOf(locker, good));
                told.add(x().missing(locker, good));
            }
        }
    }

    private void goods() {
        int goods = x().count(1);
        for (int good = 0; good < goods; good++) {
            told.add(x().nextBond(good));
            told.add(x().worth(good, 1));
            for (int what = 0; what <= 6; what++) {
                told.add(x().account(good, what));
            }
        }
    }

    private void seals() {
        int seals = x().count(4);
        for (int seal = 1; seal <= seals; seal++) {
            for (int what = 0; what <= 2; what++) {
                told.add(x().seal(seal, what));
            }
        }
    }

    private void bonds() {
        int bonds = x().count(2);
        for (int bond = 0; bond < bonds; bond++) {
            for (int what = 0; what <= 5; what++) {
                told.add(x().bond(bond, what));
            }
        }
    }

    private void whatOnlyAChangeTells() {
        begin();
        int goods = x().count(1);
        for (int good = 0; good < goods; good++) {
            told.add(x().duty(good, 1));
        }
        told.add(x().clearText());
    }
}
