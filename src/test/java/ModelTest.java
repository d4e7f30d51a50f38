import java.util.ArrayList;
import java.util.Arrays;
import java.util.List;
import java.util.Random;
import java.util.stream.Collectors;

/** All promises: runs of up to 512 calls, the same each time, answered as the plain model answers them. */
public final class ModelTest {
    private static final String[] CHANGES = {"locker", "good", "duty", "load", "use", "bring", "smash", "tear",
        "inspect", "cross", "pass", "set"};
    /** What fits in the zones 0, 1, 2. */
    private static final String[][] FITTING = {{"use", "smash", "smash", "use", "cross", "pass"},
        {"cross", "cross", "tear"}, {"load", "load", "bring", "inspect", "tear", "cross", "locker", "good", "load"}};
    /** An object is used for at most 512 calls; the last step may make 70 more, and the look needs some, too. */
    private static final int MOST_CALLS = 512;
    private static final int MOST_BEFORE_A_STEP = 400;
    private static final Checks c = new Checks("ModelTest");

    private final Random random;
    private final Model model = new Model();
    private final List<Call> calls = new ArrayList<>();
    private final List<Integer> answers = new ArrayList<>();
    /** How a run leans: great duties, many bonds, many seals, long times, or texts. */
    private final int leaning;
    private SealedStores x = new SealedStores();
    private int made;
    private boolean good = true;

    private ModelTest(int run) {
        random = new Random(run);
        leaning = run % 5;
    }

    public static void main(String[] args) {
        int runs = args.length > 0 ? Integer.parseInt(args[0]) : 1000;
        for (int run = 0; run < runs; run++) {
            new ModelTest(run).play(run);
        }
        c.end();
    }

    /** Runs end early, too: what they lead to is looked at as a whole only then. */
    private void play(int run) {
        int most = run % 2 == 0 ? MOST_BEFORE_A_STEP : 10 + upTo(MOST_BEFORE_A_STEP - 10);
        begin();
        while (made < most && good) {
            step();
        }
        if (good) {
            look();
        }
        c.holds(good, good ? "" : "run " + run + ":" + tellCalls());
    }

    /** Most runs begin with lockers and goods, or they would tell little but that there are none. */
    private void begin() {
        for (int lockers = upTo(5); lockers > 0; lockers--) {
            same("locker()", model.change("locker", 0, 0, 0, 0));
        }
        for (int goods = upTo(4); goods > 0; goods--) {
            int duty = aDuty();
            same("good(" + duty + ")", model.change("good", duty, 0, 0, 0));
        }
    }

    private void same(String written, int want) {
        if (good) {
            make(new Call(written), want);
        }
    }

    private void make(Call call, int want) {
        int got = call.on(x);
        made++;
        calls.add(call);
        answers.add(got);
        good = got == want;
        if (!good) {
            System.out.println(call + " answered " + got + ", due is " + want);
        }
    }

    /** A look may come after the last call that an object is used for: then the run is made again on a new one. */
    private void seen(String written, int want) {
        if (!good) {
            return;
        }
        if (made == MOST_CALLS) {
            x = new SealedStores();
            for (Call call : calls) {
                call.on(x);
            }
            made = calls.size();
        }
        make(new Call(written), want);
        if (good) {
            calls.remove(calls.size() - 1);
            answers.remove(answers.size() - 1);
        }
    }

    private String tellCalls() {
        StringBuilder told = new StringBuilder();
        for (int i = 0; i < calls.size(); i++) {
            told.append(' ').append(calls.get(i)).append(" = ").append(answers.get(i)).append(';');
        }
        return told.toString();
    }

    private int upTo(int most) {
        return random.nextInt(most + 1);
    }

    /** Mostly of the range, now and then beside it. */
    private int about(int least, int most) {
        switch (random.nextInt(40)) {
            case 0:
                return least - 1;
            case 1:
                return most + 1;
            case 2:
                return random.nextInt();
            case 3:
                return least;
            case 4:
                return most;
            default:
                return least + upTo(Math.max(most - least, 0));
        }
    }

    private int aLocker() {
        return about(0, model.count(0) - 1);
    }

    private int aGood() {
        return about(0, model.count(1) - 1);
    }

    private int units(int locker, int good) {
        int there = model.lockerOf(locker, good);
        return random.nextInt(6) == 0 && there > 0 ? Math.min(there, 9999) : about(1, there > 0 ? there / 3 + 1 : 3);
    }

    private void step() {
        int kind = random.nextInt(100);
        if (kind < (leaning == 4 ? 10 : 2)) {
            writeAndPlay();
        } else if (kind < 15) {
            lookOnce();
        } else if (kind < 20) {
            same("undo()", model.undo());
        } else {
            change();
        }
    }

    private void change() {
        String call = aChange();
        int[] a = argumentsOf(call);
        int[] four = Arrays.copyOf(a, 4);
        String inside = Arrays.stream(a).mapToObj(String::valueOf).collect(Collectors.joining(", "));
        same(call + "(" + inside + ")", model.change(call, four[0], four[1], four[2], four[3]));
    }

    private String aChange() {
        if (leaning == 1 && random.nextInt(2) == 0) {
            return model.count(5) == 2 ? "load" : "cross";
        }
        if (leaning == 2 && random.nextInt(4) != 0) {
            return model.count(5) == 2 && random.nextInt(8) != 0 ? "inspect" : "cross";
        }
        if (leaning == 3 && random.nextInt(2) == 0) {
            return "pass";
        }
        String[] fitting = FITTING[model.count(5)];
        return random.nextInt(4) != 0 ? fitting[random.nextInt(fitting.length)]
            : CHANGES[random.nextInt(CHANGES.length)];
    }

    /** Mostly a locker and a good of which there is something in it. */
    private int[] aStock() {
        int[] stock = {aLocker(), aGood()};
        for (int i = 0; i < 20 && random.nextInt(20) != 0 && model.lockerOf(stock[0], stock[1]) <= 0; i++) {
            stock = new int[] {aLocker(), aGood()};
        }
        return stock;
    }

    private int[] argumentsOf(String call) {
        int locker = aLocker();
        int aGood = aGood();
        switch (call) {
            case "good":
                return new int[] {aDuty()};
            case "duty":
                return new int[] {aGood, aDuty()};
            case "load":
                return new int[] {locker, aGood, leaning == 0 || leaning == 4 ? about(1, 9999) : about(1, 20)};
            case "use":
            case "bring":
            case "smash":
                int[] stock = aStock();
                int units = units(stock[0], stock[1]);
                return call.equals("smash") ? new int[] {stock[0], stock[1], units, random.nextInt(2) * about(0, 9)}
                    : new int[] {stock[0], stock[1], units};
            case "tear":
            case "inspect":
                return new int[] {locker};
            case "cross":
                int zone = model.count(5);
                return new int[] {random.nextInt(3) == 0 ? about(0, 2) : zone == 1 ? upTo(1) * 2 : 1};
            case "pass":
                return new int[] {leaning == 3 && random.nextInt(3) != 0 ? 60 : about(1, 3)};
            case "set":
                return random.nextBoolean() ? new int[] {0, about(0, 100000)} : new int[] {1, about(1, 40)};
            default:
                return new int[0];
        }
    }

    private int aDuty() {
        return leaning == 0 ? about(1, 1000000) : about(1, 30);
    }

    private void writeAndPlay() {
        if (random.nextInt(4) != 0) {
            same("clearText()", model.clearText());
        }
        StringBuilder text = new StringBuilder();
        for (int orders = random.nextInt(8); orders > 0; orders--) {
            String order = anOrder();
            for (int i = 0; i < 20 && random.nextInt(40) != 0 && !model.plays(text + order); i++) {
                order = anOrder();
            }
            text.append(order);
        }
        if (random.nextInt(10) == 0 && text.length() > 0) {
            text.setCharAt(random.nextInt(text.length()), "z0,;b u9".charAt(random.nextInt(8)));
        }
        for (int i = 0; i < text.length(); i++) {
            same("type(" + (int) text.charAt(i) + ")", model.type(text.charAt(i)));
        }
        for (int what = 0; what < 3; what++) {
            same("fault(" + what + ")", model.fault(what));
        }
        same("play()", model.play());
    }

    private String anOrder() {
        int locker = upTo(Math.max(model.count(0) - 1, 0));
        int aGood = upTo(Math.max(model.count(1) - 1, 0));
        switch (random.nextInt(8)) {
            case 0:
            case 1:
                return "z" + upTo(2) + ";";
            case 2:
                return "u" + locker + "," + aGood + "," + upTo(9) + ";";
            case 3:
                return "r" + locker + ",0" + aGood + "," + upTo(9) + ";";
            case 4:
                return "b" + locker + "," + aGood + "," + upTo(9) + "," + upTo(3) + ";";
            case 5:
                return "t" + locker + ";";
            case 6:
                return "c" + locker + ";";
            default:
                return "d" + upTo(9) + ";";
        }
    }

    private void lookOnce() {
        int a = aLocker();
        int b = aGood();
        switch (random.nextInt(13)) {
            case 0:
                int what = about(0, 11);
                same("lockerOf(" + a + ", " + what + ")", model.lockerOf(a, what));
                break;
            case 1:
                same("missing(" + a + ", " + b + ")", model.missing(a, b));
                break;
            case 2:
                int seal = about(1, model.count(4));
                int ofSeal = about(0, 2);
                same("seal(" + seal + ", " + ofSeal + ")", model.seal(seal, ofSeal));
                break;
            case 3:
                int bond = about(0, model.count(2) - 1);
                int ofBond = about(0, 5);
                same("bond(" + bond + ", " + ofBond + ")", model.bond(bond, ofBond));
                break;
            case 4:
                same("nextBond(" + b + ")", model.nextBond(b));
                break;
            case 5:
                int ofGood = about(0, 6);
                same("account(" + b + ", " + ofGood + ")", model.account(b, ofGood));
                break;
            case 6:
                int ofCents = about(0, 6);
                same("cents(" + ofCents + ")", model.cents(ofCents));
                break;
            case 7:
                int counted = about(0, 21);
                same("count(" + counted + ")", model.count(counted));
                break;
            case 8:
            case 9:
                int units = about(1, Math.max(model.account(b, 1), 1));
                same("worth(" + b + ", " + units + ")", model.worth(b, units));
                break;
            case 10:
                same("toPay()", model.toPay());
                break;
            case 11:
                same("runsOut()", model.runsOut());
                break;
            default:
                int ofFault = about(0, 2);
                same("fault(" + ofFault + ")", model.fault(ofFault));
        }
    }

    private void look() {
        for (int what = -1; what <= 22; what++) {
            seen("count(" + what + ")", model.count(what));
        }
        for (int what = -1; what <= 7; what++) {
            seen("cents(" + what + ")", model.cents(what));
        }
        for (int locker = -1; locker <= model.count(0); locker++) {
            for (int what = -1; what <= 12; what++) {
                seen("lockerOf(" + locker + ", " + what + ")", model.lockerOf(locker, what));
                seen("missing(" + locker + ", " + what + ")", model.missing(locker, what));
            }
        }
        for (int good = -1; good <= model.count(1); good++) {
            for (int what = -1; what <= 7; what++) {
                seen("account(" + good + ", " + what + ")", model.account(good, what));
            }
            seen("nextBond(" + good + ")", model.nextBond(good));
        }
        lookAtSealsAndBonds();
        seen("toPay()", model.toPay());
        seen("runsOut()", model.runsOut());
    }

    private void lookAtSealsAndBonds() {
        for (int seal = 0; seal <= model.count(4) + 1; seal++) {
            for (int what = 0; what <= 2; what++) {
                seen("seal(" + seal + ", " + what + ")", model.seal(seal, what));
            }
        }
        for (int bond = -1; bond <= model.count(2); bond++) {
            for (int what = 0; what <= 5; what++) {
                seen("bond(" + bond + ", " + what + ")", model.bond(bond, what));
            }
        }
    }
}
