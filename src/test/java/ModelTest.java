import java.util.Random;

/** All promises: long runs of calls, the same each time, answered as the plain model answers them. */
public final class ModelTest {
    private static final String[] CHANGES = {"locker", "good", "duty", "load", "use", "bring", "smash", "tear",
        "inspect", "cross", "pass", "set"};
    /** What fits in the zones 0, 1, 2. */
    private static final String[][] FITTING = {{"use", "smash", "smash", "use", "cross", "pass"},
        {"cross", "cross", "tear"}, {"load", "load", "bring", "inspect", "tear", "cross", "locker", "good", "load"}};
    private static final Checks c = new Checks("ModelTest");

    private final Random random;
    private final SealedStores x = new SealedStores();
    private final Model model = new Model();
    private final StringBuilder calls = new StringBuilder();
    /** How a run leans: great duties, many bonds, many seals, or long times. */
    private final int leaning;
    private boolean good = true;
    private boolean looking;

    private ModelTest(int run) {
        random = new Random(run);
        leaning = run % 5;
    }

    public static void main(String[] args) {
        int runs = args.length > 0 ? Integer.parseInt(args[0]) : 400;
        for (int run = 0; run < runs; run++) {
            new ModelTest(run).play(run);
        }
        c.end();
    }

    private void play(int run) {
        // Seals are used up late, so the runs that lean to them are longer.
        int steps = leaning == 2 ? 1200 : 500;
        for (int call = 0; call < steps && good; call++) {
            step();
            if (call % 20 == 0) {
                looking = true;
                look();
                looking = false;
            }
        }
        c.holds(good, "run " + run + ": " + calls);
    }

    private void same(String call, int got, int want) {
        if (good && (got != want || !looking)) {
            calls.append(call).append(" = ").append(want).append("; ");
        }
        if (got != want) {
            calls.append("but answered ").append(got);
            good = false;
        }
    }

    private int upTo(int most) {
        return random.nextInt(most + 1);
    }

    /** Mostly of the range, now and then beside it. */
    private int about(int least, int most) {
        switch (random.nextInt(40)) {
            case 0:
                return least - 1;
            case 1:
                return most + 1;
            case 2:
                return random.nextInt();
            case 3:
                return least;
            case 4:
                return most;
            default:
                return least + upTo(Math.max(most - least, 0));
        }
    }

    private int aLocker() {
        return about(0, model.count(0) - 1);
    }

    private int aGood() {
        return about(0, model.count(1) - 1);
    }

    private int units(int locker, int good) {
        int there = model.lockerOf(locker, good);
        return random.nextInt(6) == 0 && there > 0 ? Math.min(there, 9999) : about(1, there > 0 ? there / 3 + 1 : 3);
    }

    private void step() {
        int kind = random.nextInt(100);
        if (kind < 70) {
            change();
        } else if (kind < 75) {
            same("undo()", x.undo(), model.undo());
        } else if (kind < 81) {
            writeAndPlay();
        } else {
            lookOnce();
        }
    }

    private void change() {
        String call = aChange();
        int[] a = argumentsOf(call);
        same(call + "(" + a[0] + ", " + a[1] + ", " + a[2] + ", " + a[3] + ")", call(call, a),
            model.change(call, a[0], a[1], a[2], a[3]));
    }

    private String aChange() {
        if (leaning == 1 && random.nextInt(3) == 0) {
            return "load";
        }
        if (leaning == 2 && random.nextInt(3) == 0) {
            return model.count(5) == 0 ? "smash" : "inspect";
        }
        if (leaning == 3 && random.nextInt(3) == 0) {
            return "pass";
        }
        String[] fitting = FITTING[model.count(5)];
        return random.nextInt(4) != 0 ? fitting[random.nextInt(fitting.length)]
            : CHANGES[random.nextInt(CHANGES.length)];
    }

    /** Mostly a locker and a good of which there is something in it. */
    private int[] aStock() {
        int[] stock = {aLocker(), aGood()};
        for (int i = 0; i < 20 && random.nextInt(20) != 0 && model.lockerOf(stock[0], stock[1]) <= 0; i++) {
            stock = new int[] {aLocker(), aGood()};
        }
        return stock;
    }

    private int[] argumentsOf(String call) {
        int locker = aLocker();
        int aGood = aGood();
        switch (call) {
            case "good":
                return new int[] {aDuty(), 0, 0, 0};
            case "duty":
                return new int[] {aGood, aDuty(), 0, 0};
            case "load":
                return new int[] {locker, aGood, leaning == 0 || leaning == 4 ? about(1, 9999) : about(1, 20), 0};
            case "use":
            case "bring":
            case "smash":
                int[] stock = aStock();
                return new int[] {stock[0], stock[1], units(stock[0], stock[1]), random.nextInt(2) * about(0, 9)};
            case "tear":
            case "inspect":
                return new int[] {locker, 0, 0, 0};
            case "cross":
                int zone = model.count(5);
                return new int[] {random.nextInt(3) == 0 ? about(0, 2) : zone == 1 ? upTo(1) * 2 : 1, 0, 0, 0};
            case "pass":
                return new int[] {leaning == 3 && random.nextInt(2) == 0 ? 60 : about(1, 3), 0, 0, 0};
            case "set":
                return random.nextBoolean() ? new int[] {0, about(0, 100000), 0, 0} : new int[] {1, about(1, 40), 0, 0};
            default:
                return new int[4];
        }
    }

    private int aDuty() {
        return leaning == 0 ? about(1, 1000000) : about(1, 30);
    }

    private int call(String call, int[] a) {
        switch (call) {
            case "locker":
                return x.locker();
            case "good":
                return x.good(a[0]);
            case "duty":
                return x.duty(a[0], a[1]);
            case "load":
                return x.load(a[0], a[1], a[2]);
            case "use":
                return x.use(a[0], a[1], a[2]);
            case "bring":
                return x.bring(a[0], a[1], a[2]);
            case "smash":
                return x.smash(a[0], a[1], a[2], a[3]);
            case "tear":
                return x.tear(a[0]);
            case "inspect":
                return x.inspect(a[0]);
            case "cross":
                return x.cross(a[0]);
            case "pass":
                return x.pass(a[0]);
            default:
                return x.set(a[0], a[1]);
        }
    }

    private void writeAndPlay() {
        if (random.nextInt(4) != 0) {
            same("clearText()", x.clearText(), model.clearText());
        }
        StringBuilder text = new StringBuilder();
        for (int orders = random.nextInt(8); orders > 0; orders--) {
            text.append(anOrder());
        }
        if (random.nextInt(10) == 0 && text.length() > 0) {
            text.setCharAt(random.nextInt(text.length()), "z0,;b u9".charAt(random.nextInt(8)));
        }
        for (int i = 0; i < text.length(); i++) {
            same("type(" + text.charAt(i) + ")", x.type(text.charAt(i)), model.type(text.charAt(i)));
        }
        for (int what = 0; what < 3; what++) {
            same("fault(" + what + ")", x.fault(what), model.fault(what));
        }
        same("play()", x.play(), model.play());
    }

    private String anOrder() {
        int locker = upTo(Math.max(model.count(0) - 1, 0));
        int aGood = upTo(Math.max(model.count(1) - 1, 0));
        switch (random.nextInt(8)) {
            case 0:
            case 1:
                return "z" + upTo(2) + ";";
            case 2:
                return "u" + locker + "," + aGood + "," + upTo(9) + ";";
            case 3:
                return "r" + locker + ",0" + aGood + "," + upTo(9) + ";";
            case 4:
                return "b" + locker + "," + aGood + "," + upTo(9) + "," + upTo(3) + ";";
            case 5:
                return "t" + locker + ";";
            case 6:
                return "c" + locker + ";";
            default:
                return "d" + upTo(9) + ";";
        }
    }

    private void lookOnce() {
        int a = aLocker();
        int b = aGood();
        switch (random.nextInt(13)) {
            case 0:
                int what = about(0, 11);
                same("lockerOf(" + a + ", " + what + ")", x.lockerOf(a, what), model.lockerOf(a, what));
                break;
            case 1:
                same("missing(" + a + ", " + b + ")", x.missing(a, b), model.missing(a, b));
                break;
            case 2:
                int seal = about(1, model.count(4));
                int ofSeal = about(0, 2);
                same("seal(" + seal + ", " + ofSeal + ")", x.seal(seal, ofSeal), model.seal(seal, ofSeal));
                break;
            case 3:
                int bond = about(0, model.count(2) - 1);
                int ofBond = about(0, 5);
                same("bond(" + bond + ", " + ofBond + ")", x.bond(bond, ofBond), model.bond(bond, ofBond));
                break;
            case 4:
                same("nextBond(" + b + ")", x.nextBond(b), model.nextBond(b));
                break;
            case 5:
                int ofGood = about(0, 6);
                same("account(" + b + ", " + ofGood + ")", x.account(b, ofGood), model.account(b, ofGood));
                break;
            case 6:
                int ofCents = about(0, 6);
                same("cents(" + ofCents + ")", x.cents(ofCents), model.cents(ofCents));
                break;
            case 7:
                int counted = about(0, 21);
                same("count(" + counted + ")", x.count(counted), model.count(counted));
                break;
            case 8:
            case 9:
                int units = about(1, Math.max(model.account(b, 1), 1));
                same("worth(" + b + ", " + units + ")", x.worth(b, units), model.worth(b, units));
                break;
            case 10:
                same("toPay()", x.toPay(), model.toPay());
                break;
            case 11:
                same("runsOut()", x.runsOut(), model.runsOut());
                break;
            default:
                int ofFault = about(0, 2);
                same("fault(" + ofFault + ")", x.fault(ofFault), model.fault(ofFault));
        }
    }

    private void look() {
        for (int what = -1; what <= 22; what++) {
            same("count(" + what + ")", x.count(what), model.count(what));
            same("cents(" + what + ")", x.cents(what), model.cents(what));
            for (int i = -1; i <= 8; i++) {
                same("lockerOf(" + i + ", " + what + ")", x.lockerOf(i, what), model.lockerOf(i, what));
                same("account(" + i + ", " + what + ")", x.account(i, what), model.account(i, what));
                same("missing(" + i + ", " + what + ")", x.missing(i, what), model.missing(i, what));
            }
        }
        for (int i = 0; i <= 201; i++) {
            for (int what = -1; what <= 6; what++) {
                same("seal(" + i + ", " + what + ")", x.seal(i, what), model.seal(i, what));
                same("bond(" + i + ", " + what + ")", x.bond(i, what), model.bond(i, what));
            }
        }
        same("toPay()", x.toPay(), model.toPay());
        same("runsOut()", x.runsOut(), model.runsOut());
    }
}
