import java.util.ArrayList;
import java.util.Comparator;
import java.util.List;
import java.util.regex.Matcher;
import java.util.regex.Pattern;

/**
 * The document again, written as plainly as the Java library allows and unlike the program: lists of things that are
 * copied whole for each state, errors gathered first, orders read by regular expressions.
 */
final class Model {
    private static final long MOST = Integer.MAX_VALUE;

    private static final class Seal {
        int locker;
        int day;
        int fate;
    }

    private static final class Locker {
        /** Number of the seal on it, 0 if it is open; a torn one stays until it is replaced or the sea is reached. */
        int seal;
        List<Integer> units = new ArrayList<>(List.of(0, 0, 0, 0, 0, 0, 0, 0));
        List<Integer> missing = new ArrayList<>(List.of(0, 0, 0, 0, 0, 0, 0, 0));
    }

    private static final class Bond {
        int number;
        int good;
        int made;
        int left;
        int duty;
        int due;
    }

    private static final class State {
        int zone = 2;
        int day;
        int fine = 5000;
        int days = 30;
        long fines;
        List<Integer> duties = new ArrayList<>();
        List<Locker> lockers = new ArrayList<>();
        List<Seal> seals = new ArrayList<>();
        List<Bond> bonds = new ArrayList<>();
        /** Each release of units: good, reason, units, cents. */
        List<long[]> releases = new ArrayList<>();

        State copy() {
            State s = new State();
            s.zone = zone;
            s.day = day;
            s.fine = fine;
            s.days = days;
            s.fines = fines;
            s.duties.addAll(duties);
            for (Locker l : lockers) {
                Locker n = new Locker();
                n.seal = l.seal;
                n.units = new ArrayList<>(l.units);
                n.missing = new ArrayList<>(l.missing);
                s.lockers.add(n);
            }
            for (Seal e : seals) {
                Seal n = new Seal();
                n.locker = e.locker;
                n.day = e.day;
                n.fate = e.fate;
                s.seals.add(n);
            }
            for (Bond b : bonds) {
                Bond n = new Bond();
                n.number = b.number;
                n.good = b.good;
                n.made = b.made;
                n.left = b.left;
                n.duty = b.duty;
                n.due = b.due;
                s.bonds.add(n);
            }
            s.releases.addAll(releases);
            return s;
        }
    }

    private State now = new State();
    private final List<State> history = new ArrayList<>();
    private String text = "";

    private static int error(boolean argument, boolean possible, boolean limit) {
        return argument ? -1 : possible ? -2 : limit ? -3 : 0;
    }

    private static boolean in(int value, int least, int most) {
        return least <= value && value <= most;
    }

    private boolean noLocker(int l) {
        return !in(l, 0, now.lockers.size() - 1);
    }

    private boolean noGood(int g) {
        return !in(g, 0, now.duties.size() - 1);
    }

    private int stateOf(Locker l) {
        return l.seal == 0 ? 0 : now.seals.get(l.seal - 1).fate == 3 ? 2 : 1;
    }

    private void newSeal(int locker) {
        Seal s = new Seal();
        s.locker = locker;
        s.day = now.day;
        now.seals.add(s);
        now.lockers.get(locker).seal = now.seals.size();
    }

    private void officerSeals(int locker) {
        Locker l = now.lockers.get(locker);
        if (stateOf(l) == 1) {
            now.seals.get(l.seal - 1).fate = 2;
        }
        newSeal(locker);
    }

    private boolean noSeal() {
        return now.seals.size() == 200;
    }

    private List<Bond> queue(int good) {
        List<Bond> q = new ArrayList<>();
        for (Bond b : now.bonds) {
            if (b.left > 0 && (good < 0 || b.good == good)) {
                q.add(b);
            }
        }
        q.sort(Comparator.comparingInt((Bond b) -> b.due).thenComparingInt(b -> b.number));
        return q;
    }

    private long release(int good, int units, int reason) {
        long cents = 0;
        for (int i = 0; i < units; i++) {
            Bond b = queue(good).get(0);
            int chunk = Math.min(units - i, b.left);
            b.left -= chunk;
            cents += (long) chunk * b.duty;
            i += chunk - 1;
        }
        now.releases.add(new long[] {good, reason, units, cents});
        return cents;
    }

    private long price(int good, int units) {
        State kept = now;
        now = now.copy();
        long cents = release(good, units, 0);
        now = kept;
        return cents;
    }

    private void change(List<Integer> list, int at, int by) {
        list.set(at, list.get(at) + by);
    }

    /** Carries a change out on the state; the history is the caller's. */
    private int act(String call, int a, int b, int c, int d) {
        switch (call) {
            case "locker": {
                int e = error(false, now.zone != 2, now.lockers.size() == 5 || noSeal());
                if (e < 0) {
                    return e;
                }
                now.lockers.add(new Locker());
                newSeal(now.lockers.size() - 1);
                return now.lockers.size() - 1;
            }
            case "good": {
                int e = error(!in(a, 1, 1000000), false, now.duties.size() == 8);
                if (e < 0) {
                    return e;
                }
                now.duties.add(a);
                return now.duties.size() - 1;
            }
            case "duty":
                return noGood(a) || !in(b, 1, 1000000) ? -1 : now.duties.set(a, b);
            case "load":
                return load(a, b, c);
            case "use":
            case "bring":
            case "smash":
                return away(call, a, b, c, d);
            case "tear": {
                int e = error(noLocker(a), !noLocker(a) && stateOf(now.lockers.get(a)) != 1, false);
                if (e < 0) {
                    return e;
                }
                now.seals.get(now.lockers.get(a).seal - 1).fate = 3;
                return now.lockers.get(a).seal;
            }
            case "inspect":
                return inspect(a);
            case "cross":
                return cross(a);
            case "pass":
                return pass(a);
            case "set": {
                if (a == 0 && in(b, 0, 100000)) {
                    int old = now.fine;
                    now.fine = b;
                    return old;
                }
                if (a == 1 && in(b, 1, 99)) {
                    int old = now.days;
                    now.days = b;
                    return old;
                }
                return -1;
            }
            default:
                throw new IllegalStateException(call);
        }
    }

    private int load(int l, int g, int units) {
        if (noLocker(l) || noGood(g) || !in(units, 1, 9999)) {
            return -1;
        }
        Locker locker = now.lockers.get(l);
        long amounts = (long) units * now.duties.get(g);
        for (Bond b : now.bonds) {
            amounts += (long) b.left * b.duty;
        }
        for (long[] r : now.releases) {
            amounts += r[3];
        }
        int e = error(false, now.zone != 2 || stateOf(locker) == 2,
            now.bonds.size() == 60 || noSeal() || locker.units.get(g) + units > 99999 || amounts > MOST);
        if (e < 0) {
            return e;
        }
        officerSeals(l);
        change(locker.units, g, units);
        Bond b = new Bond();
        b.number = now.bonds.size();
        b.good = g;
        b.made = units;
        b.left = units;
        b.duty = now.duties.get(g);
        b.due = now.day + now.days;
        now.bonds.add(b);
        return b.number;
    }

    private int away(String call, int l, int g, int units, int witnesses) {
        if (noLocker(l) || noGood(g) || !in(units, 1, 9999) || (call.equals("smash") && !in(witnesses, 0, 9))) {
            return -1;
        }
        Locker locker = now.lockers.get(l);
        boolean bring = call.equals("bring");
        boolean few = locker.units.get(g) < units;
        int e = error(false, now.zone != (bring ? 2 : 0) || few || stateOf(locker) == 2, bring && noSeal());
        if (e < 0) {
            return e;
        }
        change(locker.units, g, -units);
        if (bring) {
            officerSeals(l);
        }
        if (call.equals("smash") && witnesses == 0) {
            change(locker.missing, g, units);
            return 0;
        }
        return (int) release(g, units, bring ? 1 : call.equals("use") ? 0 : 2);
    }

    private int inspect(int l) {
        if (noLocker(l)) {
            return -1;
        }
        State kept = now;
        now = now.copy();
        Locker locker = now.lockers.get(l);
        long pay = 0;
        for (int g = 0; g < now.duties.size(); g++) {
            pay += release(g, locker.missing.get(g), 3);
            locker.missing.set(g, 0);
        }
        if (stateOf(locker) == 2) {
            pay += now.fine;
            now.fines += now.fine;
        }
        int e = error(false, now.zone != 2, noSeal() || pay > MOST);
        if (e < 0) {
            now = kept;
            return e;
        }
        officerSeals(l);
        return (int) pay;
    }

    private int cross(int zone) {
        int e = error(!in(zone, 0, 2), Math.abs(zone - now.zone) != 1,
            now.zone == 0 && now.seals.size() + now.lockers.size() > 200);
        if (e < 0) {
            return e;
        }
        int changed = 0;
        for (int l = 0; l < now.lockers.size(); l++) {
            Locker locker = now.lockers.get(l);
            if (now.zone == 0) {
                newSeal(l);
                changed++;
            } else if (zone == 0) {
                if (stateOf(locker) == 1) {
                    now.seals.get(locker.seal - 1).fate = 1;
                    changed++;
                }
                locker.seal = 0;
            }
        }
        now.zone = zone;
        return changed;
    }

    private int pass(int days) {
        int e = error(!in(days, 1, 60), false, (long) now.day + days > 5000);
        if (e < 0) {
            return e;
        }
        long taxes = 0;
        for (int i = 0; i < days; i++) {
            now.day++;
            for (Bond b : queue(-1)) {
                if (b.due > now.day - 1) {
                    continue;
                }
                int rest = b.left;
                long cents = (long) rest * b.duty;
                now.releases.add(new long[] {b.good, 3, rest, cents});
                taxes += cents;
                b.left = 0;
                for (Locker l : now.lockers) {
                    int taken = Math.min(rest, l.missing.get(b.good));
                    change(l.missing, b.good, -taken);
                    rest -= taken;
                }
                for (Locker l : now.lockers) {
                    int taken = Math.min(rest, l.units.get(b.good));
                    change(l.units, b.good, -taken);
                    rest -= taken;
                }
                if (rest != 0) {
                    throw new IllegalStateException("units that are nowhere");
                }
            }
        }
        return (int) taxes;
    }

    int change(String call, int a, int b, int c, int d) {
        State before = now.copy();
        int answer = act(call, a, b, c, d);
        if (answer >= 0) {
            record(before);
        }
        return answer;
    }

    private void record(State before) {
        history.add(before);
        if (history.size() == 5) {
            history.remove(0);
        }
    }

    int undo() {
        if (history.isEmpty()) {
            return -2;
        }
        now = history.remove(history.size() - 1);
        return history.size();
    }

    int lockerOf(int l, int what) {
        if (noLocker(l) || !in(what, 0, 11) || (what < 8 && noGood(what))) {
            return -1;
        }
        Locker locker = now.lockers.get(l);
        switch (what) {
            case 8:
                return stateOf(locker);
            case 9:
                return stateOf(locker) == 1 ? locker.seal : -4;
            case 10:
                return locker.units.stream().mapToInt(u -> u).sum();
            case 11:
                return locker.missing.stream().mapToInt(u -> u).sum();
            default:
                return locker.units.get(what);
        }
    }

    int missing(int l, int g) {
        return noLocker(l) || noGood(g) ? -1 : now.lockers.get(l).missing.get(g);
    }

    int seal(int s, int what) {
        if (!in(s, 1, now.seals.size()) || !in(what, 0, 2)) {
            return -1;
        }
        Seal seal = now.seals.get(s - 1);
        return new int[] {seal.locker, seal.day, seal.fate}[what];
    }

    int bond(int n, int what) {
        if (!in(n, 0, now.bonds.size() - 1) || !in(what, 0, 5)) {
            return -1;
        }
        Bond b = now.bonds.get(n);
        return new int[] {b.good, b.made, b.left, b.duty, b.left * b.duty, b.due}[what];
    }

    int nextBond(int g) {
        return noGood(g) ? -1 : queue(g).isEmpty() ? -4 : queue(g).get(0).number;
    }

    int account(int g, int what) {
        if (noGood(g) || !in(what, 0, 6)) {
            return -1;
        }
        if (what == 0) {
            return now.bonds.stream().filter(b -> b.good == g).mapToInt(b -> b.made).sum();
        }
        if (what < 3) {
            return now.lockers.stream().mapToInt(l -> (what == 1 ? l.units : l.missing).get(g)).sum();
        }
        return (int) now.releases.stream().filter(r -> r[0] == g && r[1] == what - 3).mapToLong(r -> r[2]).sum();
    }

    int cents(int what) {
        if (!in(what, 0, 6)) {
            return -1;
        }
        if (what == 0) {
            return (int) now.bonds.stream().mapToLong(b -> (long) b.made * b.duty).sum();
        }
        if (what == 1) {
            return (int) now.bonds.stream().mapToLong(b -> (long) b.left * b.duty).sum();
        }
        if (what == 6) {
            return now.fines > MOST ? -3 : (int) now.fines;
        }
        return (int) now.releases.stream().filter(r -> r[1] == what - 2).mapToLong(r -> r[3]).sum();
    }

    int count(int what) {
        switch (what) {
            case 0:
                return now.lockers.size();
            case 1:
                return now.duties.size();
            case 2:
                return now.bonds.size();
            case 3:
                return queue(-1).size();
            case 4:
                return now.seals.size();
            case 5:
                return now.zone;
            case 6:
                return now.day;
            case 7:
            case 8:
                return (int) now.lockers.stream().filter(l -> stateOf(l) == what - 6).count();
            case 9:
                return history.size();
            case 10:
                return text.length();
            case 20:
                return now.fine;
            case 21:
                return now.days;
            default:
                return -1;
        }
    }

    int worth(int g, int units) {
        if (noGood(g) || !in(units, 1, 99999)) {
            return -1;
        }
        return queue(g).stream().mapToInt(b -> b.left).sum() < units ? -4 : (int) price(g, units);
    }

    int toPay() {
        State kept = now;
        now = now.copy();
        long pay = 0;
        for (Locker l : now.lockers) {
            for (int g = 0; g < now.duties.size(); g++) {
                pay += release(g, l.missing.get(g), 3);
            }
            pay += stateOf(l) == 2 ? now.fine : 0;
        }
        now = kept;
        return pay > MOST ? -3 : (int) pay;
    }

    int runsOut() {
        return queue(-1).isEmpty() ? -4 : queue(-1).get(0).due + 1 - now.day;
    }

    int type(int character) {
        int e = error(!in(character, 32, 126), false, text.length() == 80);
        if (e < 0) {
            return e;
        }
        text += (char) character;
        return text.length();
    }

    int clearText() {
        int length = text.length();
        text = "";
        return length;
    }

    private static final String NUMBER = "(\\d{1,4})";
    private static final Pattern ORDER = Pattern.compile("(?:([ztcd])" + NUMBER + "|([ur])" + NUMBER + "," + NUMBER
        + "," + NUMBER + "|(b)" + NUMBER + "," + NUMBER + "," + NUMBER + "," + NUMBER + ");");

    /** Does the orders on the present state: position, reason, cause of the fault, and the orders done. */
    private int[] run() {
        int position = 0;
        int orders = 0;
        Matcher m = ORDER.matcher(text);
        while (position < text.length()) {
            m.region(position, text.length());
            if (!m.lookingAt()) {
                return new int[] {position, 1, -4, orders};
            }
            List<String> parts = new ArrayList<>();
            for (int i = 1; i <= m.groupCount(); i++) {
                if (m.group(i) != null) {
                    parts.add(m.group(i));
                }
            }
            int[] n = new int[4];
            for (int i = 1; i < parts.size(); i++) {
                n[i - 1] = Integer.parseInt(parts.get(i));
            }
            String[] calls = {"cross", "use", "bring", "smash", "tear", "inspect", "pass"};
            int answer = act(calls["zurbtcd".indexOf(parts.get(0))], n[0], n[1], n[2], n[3]);
            if (answer < 0) {
                return new int[] {position, 2, answer, orders};
            }
            orders++;
            position = m.end();
        }
        return new int[] {-4, -4, -4, orders};
    }

    int fault(int what) {
        if (!in(what, 0, 2)) {
            return -1;
        }
        State kept = now;
        now = now.copy();
        int answer = run()[what];
        now = kept;
        return answer;
    }

    /** Whether this text would have no fault. */
    boolean plays(String orders) {
        String kept = text;
        text = orders;
        boolean faultless = fault(0) == -4;
        text = kept;
        return faultless;
    }

    int play() {
        State before = now;
        now = now.copy();
        int[] end = run();
        if (end[1] != -4) {
            now = before;
            return -2;
        }
        record(before);
        return end[3];
    }
}
