/** A ship's stores of goods under bond, as ../shared/DOC.md promises them. */
public final class SealedStores {
    public static final int INVALID_ARGUMENT = -1;
    public static final int NOT_POSSIBLE = -2;
    public static final int LIMIT_REACHED = -3;
    public static final int NOT_FOUND = -4;

    private static final int SEA = 0;
    private static final int WATERS = 1;
    private static final int PORT = 2;

    private static final int OPEN = 0;
    private static final int SEALED = 1;
    private static final int TORN = 2;

    private static final int SEAL_ON_LOCKER = 0;
    private static final int SEAL_OFF_AT_SEA = 1;
    private static final int SEAL_OFF_BY_OFFICER = 2;
    private static final int SEAL_TORN = 3;

    private static final int USED = 0;
    private static final int RETURNED = 1;
    private static final int BROKEN = 2;
    private static final int TAXED = 3;
    private static final int REASONS = 4;

    private static final int FINE = 0;
    private static final int BOND_DAYS = 1;
    private static final int SETTINGS = 2;

    private static final int MOST_LOCKERS = 5;
    private static final int MOST_SEALS = 200;
    private static final int MOST_GOODS = 8;
    private static final int MOST_BONDS = 60;
    private static final int MOST_STATES = 4;
    private static final int MOST_SIGNS = 80;
    private static final int MOST_DUTY = 1000000;
    private static final int MOST_UNITS_MOVED = 9999;
    private static final int MOST_UNITS_KEPT = 99999;
    private static final int MOST_WITNESSES = 9;
    private static final int MOST_DAYS_PASSED = 60;
    private static final int MOST_FINE = 100000;
    private static final int MOST_BOND_DAYS = 99;
    private static final int LAST_DAY = 5000;
    private static final long MOST_CENTS = 2147483647L;

    private static final int ORDER_NUMBERS = 4;
    private static final int ORDER_DIGITS = 4;
    private static final int REASON_FORM = 1;
    private static final int REASON_CALL = 2;

    private static final int NONE = -1;
    private static final int ANY_GOOD = -1;

    private final Ship ship;
    /** The ship on which the text is tried, so that a fault leaves the real one alone. */
    private final Ship trial;
    private final History history;
    private final OrderLog log;

    public SealedStores() {
        ship = new Ship();
        trial = new Ship();
        history = new History();
        log = new OrderLog();
    }

    // ---- lockers, goods, bonds

    public int locker() {
        history.prepare(ship);
        return history.finish(ship.addLocker());
    }

    public int good(int duty) {
        history.prepare(ship);
        return history.finish(ship.addGood(duty));
    }

    public int duty(int good, int duty) {
        history.prepare(ship);
        return history.finish(ship.changeDuty(good, duty));
    }

    public int load(int locker, int good, int units) {
        history.prepare(ship);
        return history.finish(ship.loadUnits(locker, good, units));
    }

    public int lockerOf(int locker, int what) {
        if (!ship.hasLocker(locker) || what < 0 || what > 11) {
            return INVALID_ARGUMENT;
        }
        Lockers lockers = ship.lockers;
        switch (what) {
            case 8:
                return lockers.state[locker];
            case 9:
                return lockers.state[locker] == SEALED ? lockers.seal[locker] : NOT_FOUND;
            case 10:
                return lockers.sumOfLocker(lockers.units, locker);
            case 11:
                return lockers.sumOfLocker(lockers.missing, locker);
            default:
                return ship.hasGood(what) ? lockers.units[lockers.place(locker, what)] : INVALID_ARGUMENT;
        }
    }

    public int missing(int locker, int good) {
        if (!ship.hasLocker(locker) || !ship.hasGood(good)) {
            return INVALID_ARGUMENT;
        }
        return ship.lockers.missing[ship.lockers.place(locker, good)];
    }

    public int seal(int seal, int what) {
        Seals seals = ship.seals;
        if (seal < 1 || seal > seals.used) {
            return INVALID_ARGUMENT;
        }
        switch (what) {
            case 0:
                return seals.locker[seal];
            case 1:
                return seals.day[seal];
            case 2:
                return seals.fate[seal];
            default:
                return INVALID_ARGUMENT;
        }
    }

    public int bond(int bond, int what) {
        Bonds bonds = ship.bonds;
        if (bond < 0 || bond >= bonds.number) {
            return INVALID_ARGUMENT;
        }
        switch (what) {
            case 0:
                return bonds.good[bond];
            case 1:
                return bonds.made[bond];
            case 2:
                return bonds.left[bond];
            case 3:
                return bonds.duty[bond];
            case 4:
                return (int) bonds.held(bond);
            case 5:
                return bonds.due[bond];
            default:
                return INVALID_ARGUMENT;
        }
    }

    public int nextBond(int good) {
        if (!ship.hasGood(good)) {
            return INVALID_ARGUMENT;
        }
        int bond = ship.bonds.nextAfter(good, NONE);
        return bond == NONE ? NOT_FOUND : bond;
    }

    // ---- what becomes of goods

    public int use(int locker, int good, int units) {
        history.prepare(ship);
        return history.finish(ship.useUnits(locker, good, units));
    }

    public int bring(int locker, int good, int units) {
        history.prepare(ship);
        return history.finish(ship.returnUnits(locker, good, units));
    }

    public int smash(int locker, int good, int units, int witnesses) {
        history.prepare(ship);
        return history.finish(ship.breakUnits(locker, good, units, witnesses));
    }

    public int tear(int locker) {
        history.prepare(ship);
        return history.finish(ship.tearSeal(locker));
    }

    public int inspect(int locker) {
        history.prepare(ship);
        return history.finish(ship.countLocker(locker));
    }

    public int cross(int zone) {
        history.prepare(ship);
        return history.finish(ship.crossTo(zone));
    }

    public int pass(int days) {
        history.prepare(ship);
        return history.finish(ship.passDays(days));
    }

    public int set(int what, int value) {
        history.prepare(ship);
        return history.finish(ship.changeSetting(what, value));
    }

    // ---- accounts

    public int account(int good, int what) {
        if (!ship.hasGood(good) || what < 0 || what > 6) {
            return INVALID_ARGUMENT;
        }
        Lockers lockers = ship.lockers;
        switch (what) {
            case 0:
                return ship.bonds.loaded(good);
            case 1:
                return lockers.sumOfGood(lockers.units, good);
            case 2:
                return lockers.sumOfGood(lockers.missing, good);
            default:
                return ship.releases.units[ship.releases.place(good, what - 3)];
        }
    }

    public int cents(int what) {
        if (what < 0 || what > 6) {
            return INVALID_ARGUMENT;
        }
        switch (what) {
            case 0:
                return (int) ship.bonds.amountMade;
            case 1:
                return (int) ship.bonds.heldByAll();
            case 6:
                return centsOrLimit(ship.releases.fines);
            default:
                return (int) ship.releases.cents[what - 2];
        }
    }

    public int count(int what) {
        switch (what) {
            case 0:
                return ship.lockers.number;
            case 1:
                return ship.goods;
            case 2:
                return ship.bonds.number;
            case 3:
                return ship.bonds.withUnits();
            case 4:
                return ship.seals.used;
            case 5:
                return ship.zone;
            case 6:
                return ship.day;
            case 7:
                return ship.lockers.inState(SEALED);
            case 8:
                return ship.lockers.inState(TORN);
            case 9:
                return history.number;
            case 10:
                return log.length;
            case 20:
                return ship.settings[FINE];
            case 21:
                return ship.settings[BOND_DAYS];
            default:
                return INVALID_ARGUMENT;
        }
    }

    public int undo() {
        return history.restore(ship);
    }

    // ---- what would be, which changes nothing

    public int worth(int good, int units) {
        if (!ship.hasGood(good) || units < 1 || units > MOST_UNITS_KEPT) {
            return INVALID_ARGUMENT;
        }
        if (ship.bonds.leftOf(good) < units) {
            return NOT_FOUND;
        }
        return (int) ship.bonds.amountOf(good, units, false);
    }

    public int toPay() {
        return centsOrLimit(ship.toPayForAll());
    }

    public int runsOut() {
        int bond = ship.bonds.nextAfter(ANY_GOOD, NONE);
        return bond == NONE ? NOT_FOUND : ship.bonds.due[bond] + 1 - ship.day;
    }

    // ---- texts

    public int type(int character) {
        return log.append(character);
    }

    public int clearText() {
        return log.empty();
    }

    public int fault(int what) {
        if (what < 0 || what > 2) {
            return INVALID_ARGUMENT;
        }
        log.tryOn(trial, ship);
        if (log.faultReason == 0) {
            return NOT_FOUND;
        }
        switch (what) {
            case 0:
                return log.faultPosition;
            case 1:
                return log.faultReason;
            default:
                return log.faultReason == REASON_CALL ? log.faultCause : NOT_FOUND;
        }
    }

    public int play() {
        log.tryOn(trial, ship);
        if (log.faultReason != 0) {
            return NOT_POSSIBLE;
        }
        history.prepare(ship);
        ship.become(trial);
        return history.finish(log.ordersDone);
    }

    private static int centsOrLimit(long cents) {
        return cents > MOST_CENTS ? LIMIT_REACHED : (int) cents;
    }

    /** All that a change may alter and that the history keeps; a change that is refused alters nothing. */
    private static final class Ship {
        int zone;
        int day;
        int goods;
        final int[] duties;
        final int[] settings;
        final Lockers lockers;
        final Seals seals;
        final Bonds bonds;
        final Releases releases;

        Ship() {
            zone = PORT;
            day = 0;
            goods = 0;
            duties = new int[MOST_GOODS];
            settings = new int[SETTINGS];
            settings[FINE] = 5000;
            settings[BOND_DAYS] = 30;
            lockers = new Lockers();
            seals = new Seals();
            bonds = new Bonds();
            releases = new Releases();
        }

        void become(Ship other) {
            zone = other.zone;
            day = other.day;
            goods = other.goods;
            System.arraycopy(other.duties, 0, duties, 0, MOST_GOODS);
            System.arraycopy(other.settings, 0, settings, 0, SETTINGS);
            lockers.become(other.lockers);
            seals.become(other.seals);
            bonds.become(other.bonds);
            releases.become(other.releases);
        }

        boolean hasLocker(int locker) {
            return locker >= 0 && locker < lockers.number;
        }

        boolean hasGood(int good) {
            return good >= 0 && good < goods;
        }

        boolean isDuty(int duty) {
            return duty >= 1 && duty <= MOST_DUTY;
        }

        boolean canMove(int locker, int good, int units) {
            return hasLocker(locker) && hasGood(good) && units >= 1 && units <= MOST_UNITS_MOVED;
        }

        int addLocker() {
            if (zone != PORT) {
                return NOT_POSSIBLE;
            }
            if (lockers.number >= MOST_LOCKERS || seals.left() < 1) {
                return LIMIT_REACHED;
            }
            int locker = lockers.number;
            lockers.number++;
            putSeal(locker);
            return locker;
        }

        int addGood(int duty) {
            if (!isDuty(duty)) {
                return INVALID_ARGUMENT;
            }
            if (goods >= MOST_GOODS) {
                return LIMIT_REACHED;
            }
            duties[goods] = duty;
            goods++;
            return goods - 1;
        }

        int changeDuty(int good, int duty) {
            if (!hasGood(good) || !isDuty(duty)) {
                return INVALID_ARGUMENT;
            }
            int old = duties[good];
            duties[good] = duty;
            return old;
        }

        int loadUnits(int locker, int good, int units) {
            if (!canMove(locker, good, units)) {
                return INVALID_ARGUMENT;
            }
            if (zone != PORT || lockers.state[locker] == TORN) {
                return NOT_POSSIBLE;
            }
            int place = lockers.place(locker, good);
            long amount = (long) units * duties[good];
            if (bonds.number >= MOST_BONDS || seals.left() < 1
                    || lockers.units[place] + units > MOST_UNITS_KEPT
                    || bonds.amountMade + amount > MOST_CENTS) {
                return LIMIT_REACHED;
            }
            sealByOfficer(locker);
            lockers.units[place] += units;
            return bonds.add(good, units, duties[good], day + settings[BOND_DAYS]);
        }

        int useUnits(int locker, int good, int units) {
            if (!canMove(locker, good, units)) {
                return INVALID_ARGUMENT;
            }
            int place = lockers.place(locker, good);
            if (zone != SEA || lockers.units[place] < units) {
                return NOT_POSSIBLE;
            }
            lockers.units[place] -= units;
            return (int) release(good, units, USED);
        }

        int returnUnits(int locker, int good, int units) {
            if (!canMove(locker, good, units)) {
                return INVALID_ARGUMENT;
            }
            int place = lockers.place(locker, good);
            if (zone != PORT || lockers.state[locker] == TORN || lockers.units[place] < units) {
                return NOT_POSSIBLE;
            }
            if (seals.left() < 1) {
                return LIMIT_REACHED;
            }
            sealByOfficer(locker);
            lockers.units[place] -= units;
            return (int) release(good, units, RETURNED);
        }

        int breakUnits(int locker, int good, int units, int witnesses) {
            if (!canMove(locker, good, units) || witnesses < 0 || witnesses > MOST_WITNESSES) {
                return INVALID_ARGUMENT;
            }
            int place = lockers.place(locker, good);
            if (zone != SEA || lockers.units[place] < units) {
                return NOT_POSSIBLE;
            }
            lockers.units[place] -= units;
            if (witnesses == 0) {
                lockers.missing[place] += units;
                return 0;
            }
            return (int) release(good, units, BROKEN);
        }

        int tearSeal(int locker) {
            if (!hasLocker(locker)) {
                return INVALID_ARGUMENT;
            }
            if (lockers.state[locker] != SEALED) {
                return NOT_POSSIBLE;
            }
            lockers.state[locker] = TORN;
            seals.end(lockers.seal[locker], SEAL_TORN);
            return lockers.seal[locker];
        }

        int countLocker(int locker) {
            if (!hasLocker(locker)) {
                return INVALID_ARGUMENT;
            }
            if (zone != PORT) {
                return NOT_POSSIBLE;
            }
            int fine = lockers.state[locker] == TORN ? settings[FINE] : 0;
            long pay = taxesOf(locker) + fine;
            if (seals.left() < 1 || pay > MOST_CENTS) {
                return LIMIT_REACHED;
            }
            releases.fines += fine;
            for (int good = 0; good < goods; good++) {
                int place = lockers.place(locker, good);
                release(good, lockers.missing[place], TAXED);
                lockers.missing[place] = 0;
            }
            sealByOfficer(locker);
            return (int) pay;
        }

        int crossTo(int target) {
            if (target < SEA || target > PORT) {
                return INVALID_ARGUMENT;
            }
            if (target == zone || (target != WATERS && zone != WATERS)) {
                return NOT_POSSIBLE;
            }
            if (zone == SEA && seals.left() < lockers.inState(OPEN)) {
                return LIMIT_REACHED;
            }
            int before = zone;
            zone = target;
            if (before == SEA) {
                return sealOpenLockers();
            }
            return target == SEA ? openLockers() : 0;
        }

        int passDays(int days) {
            if (days < 1 || days > MOST_DAYS_PASSED) {
                return INVALID_ARGUMENT;
            }
            if (day + days > LAST_DAY) {
                return LIMIT_REACHED;
            }
            // Bonds run out in the order of their days, so all days at once come to the same as one by one.
            day += days;
            return (int) runOutBonds();
        }

        int changeSetting(int what, int value) {
            if (what < 0 || what >= SETTINGS) {
                return INVALID_ARGUMENT;
            }
            int least = what == FINE ? 0 : 1;
            int most = what == FINE ? MOST_FINE : MOST_BOND_DAYS;
            if (value < least || value > most) {
                return INVALID_ARGUMENT;
            }
            int old = settings[what];
            settings[what] = value;
            return old;
        }

        long toPayForAll() {
            long pay = (long) lockers.inState(TORN) * settings[FINE];
            for (int good = 0; good < goods; good++) {
                pay += bonds.amountOf(good, lockers.sumOfGood(lockers.missing, good), false);
            }
            return pay;
        }

        private long release(int good, int units, int reason) {
            long amount = bonds.amountOf(good, units, true);
            releases.add(good, reason, units, amount);
            return amount;
        }

        private long taxesOf(int locker) {
            long taxes = 0;
            for (int good = 0; good < goods; good++) {
                taxes += bonds.amountOf(good, lockers.missing[lockers.place(locker, good)], false);
            }
            return taxes;
        }

        private long runOutBonds() {
            long taxes = 0;
            for (int i = 0; i < bonds.number; i++) {
                int bond = bonds.nextAfter(ANY_GOOD, NONE);
                if (bond == NONE || bonds.due[bond] >= day) {
                    break;
                }
                int good = bonds.good[bond];
                int units = bonds.left[bond];
                long amount = bonds.held(bond);
                bonds.left[bond] = 0;
                releases.add(good, TAXED, units, amount);
                lockers.takeFromAny(good, units);
                taxes += amount;
            }
            return taxes;
        }

        private void putSeal(int locker) {
            lockers.state[locker] = SEALED;
            lockers.seal[locker] = seals.putOn(locker, day);
        }

        private void sealByOfficer(int locker) {
            // A torn seal stays torn: there is nothing left to take off.
            if (lockers.state[locker] == SEALED) {
                seals.end(lockers.seal[locker], SEAL_OFF_BY_OFFICER);
            }
            putSeal(locker);
        }

        private int sealOpenLockers() {
            int sealed = 0;
            for (int locker = 0; locker < lockers.number; locker++) {
                if (lockers.state[locker] == OPEN) {
                    putSeal(locker);
                    sealed++;
                }
            }
            return sealed;
        }

        private int openLockers() {
            int takenOff = 0;
            for (int locker = 0; locker < lockers.number; locker++) {
                if (lockers.state[locker] == SEALED) {
                    seals.end(lockers.seal[locker], SEAL_OFF_AT_SEA);
                    takenOff++;
                }
                lockers.state[locker] = OPEN;
            }
            return takenOff;
        }
    }

    private static final class Lockers {
        int number;
        final int[] state;
        final int[] seal;
        final int[] units;
        final int[] missing;

        Lockers() {
            number = 0;
            state = new int[MOST_LOCKERS];
            seal = new int[MOST_LOCKERS];
            units = new int[MOST_LOCKERS * MOST_GOODS];
            missing = new int[MOST_LOCKERS * MOST_GOODS];
        }

        void become(Lockers other) {
            number = other.number;
            System.arraycopy(other.state, 0, state, 0, MOST_LOCKERS);
            System.arraycopy(other.seal, 0, seal, 0, MOST_LOCKERS);
            System.arraycopy(other.units, 0, units, 0, MOST_LOCKERS * MOST_GOODS);
            System.arraycopy(other.missing, 0, missing, 0, MOST_LOCKERS * MOST_GOODS);
        }

        int place(int locker, int good) {
            return locker * MOST_GOODS + good;
        }

        int inState(int wanted) {
            int found = 0;
            for (int locker = 0; locker < number; locker++) {
                if (state[locker] == wanted) {
                    found++;
                }
            }
            return found;
        }

        int sumOfLocker(int[] amounts, int locker) {
            int sum = 0;
            for (int good = 0; good < MOST_GOODS; good++) {
                sum += amounts[place(locker, good)];
            }
            return sum;
        }

        int sumOfGood(int[] amounts, int good) {
            int sum = 0;
            for (int locker = 0; locker < number; locker++) {
                sum += amounts[place(locker, good)];
            }
            return sum;
        }

        void takeFromAny(int good, int wanted) {
            int rest = takeLowestFirst(missing, good, wanted);
            takeLowestFirst(units, good, rest);
        }

        private int takeLowestFirst(int[] amounts, int good, int wanted) {
            int rest = wanted;
            for (int locker = 0; locker < number; locker++) {
                int place = place(locker, good);
                int taken = Math.min(rest, amounts[place]);
                amounts[place] -= taken;
                rest -= taken;
            }
            return rest;
        }
    }

    /** Seals stand at their own numbers, so the place 0 is never used. */
    private static final class Seals {
        int used;
        final int[] locker;
        final int[] day;
        final int[] fate;

        Seals() {
            used = 0;
            locker = new int[MOST_SEALS + 1];
            day = new int[MOST_SEALS + 1];
            fate = new int[MOST_SEALS + 1];
        }

        void become(Seals other) {
            used = other.used;
            System.arraycopy(other.locker, 0, locker, 0, MOST_SEALS + 1);
            System.arraycopy(other.day, 0, day, 0, MOST_SEALS + 1);
            System.arraycopy(other.fate, 0, fate, 0, MOST_SEALS + 1);
        }

        int left() {
            return MOST_SEALS - used;
        }

        int putOn(int onLocker, int onDay) {
            if (used >= MOST_SEALS) {
                return 0;
            }
            used++;
            locker[used] = onLocker;
            day[used] = onDay;
            fate[used] = SEAL_ON_LOCKER;
            return used;
        }

        void end(int seal, int newFate) {
            if (seal >= 1 && seal <= used) {
                fate[seal] = newFate;
            }
        }
    }

    private static final class Bonds {
        int number;
        /** All amounts as they were made: what is held and what was released together. */
        long amountMade;
        final int[] good;
        final int[] made;
        final int[] left;
        final int[] duty;
        final int[] due;

        Bonds() {
            number = 0;
            amountMade = 0;
            good = new int[MOST_BONDS];
            made = new int[MOST_BONDS];
            left = new int[MOST_BONDS];
            duty = new int[MOST_BONDS];
            due = new int[MOST_BONDS];
        }

        void become(Bonds other) {
            number = other.number;
            amountMade = other.amountMade;
            System.arraycopy(other.good, 0, good, 0, MOST_BONDS);
            System.arraycopy(other.made, 0, made, 0, MOST_BONDS);
            System.arraycopy(other.left, 0, left, 0, MOST_BONDS);
            System.arraycopy(other.duty, 0, duty, 0, MOST_BONDS);
            System.arraycopy(other.due, 0, due, 0, MOST_BONDS);
        }

        int add(int ofGood, int units, int unitDuty, int dueDay) {
            if (number >= MOST_BONDS) {
                return LIMIT_REACHED;
            }
            int bond = number;
            number++;
            good[bond] = ofGood;
            made[bond] = units;
            left[bond] = units;
            duty[bond] = unitDuty;
            due[bond] = dueDay;
            amountMade += (long) units * unitDuty;
            return bond;
        }

        long held(int bond) {
            return (long) left[bond] * duty[bond];
        }

        long heldByAll() {
            long sum = 0;
            for (int bond = 0; bond < number; bond++) {
                sum += held(bond);
            }
            return sum;
        }

        int withUnits() {
            int found = 0;
            for (int bond = 0; bond < number; bond++) {
                if (left[bond] > 0) {
                    found++;
                }
            }
            return found;
        }

        int loaded(int ofGood) {
            int sum = 0;
            for (int bond = 0; bond < number; bond++) {
                if (good[bond] == ofGood) {
                    sum += made[bond];
                }
            }
            return sum;
        }

        int leftOf(int ofGood) {
            int sum = 0;
            for (int bond = 0; bond < number; bond++) {
                if (good[bond] == ofGood) {
                    sum += left[bond];
                }
            }
            return sum;
        }

        /** The bond with units left that is released next after this one, or first of all after NONE. */
        int nextAfter(int ofGood, int previous) {
            // One number for both: the day on which a bond is due, and its own number among those of a day.
            boolean fromTheFirst = previous < 0 || previous >= number;
            int rankBefore = fromTheFirst ? NONE : due[previous] * MOST_BONDS + previous;
            int next = NONE;
            int nextRank = NONE;
            for (int bond = 0; bond < number; bond++) {
                int bondRank = due[bond] * MOST_BONDS + bond;
                boolean fits = left[bond] > 0 && (ofGood == ANY_GOOD || good[bond] == ofGood);
                if (fits && bondRank > rankBefore && (next == NONE || bondRank < nextRank)) {
                    next = bond;
                    nextRank = bondRank;
                }
            }
            return next;
        }

        /** The amount that a release of these units sets free; it is carried out only if taking. */
        long amountOf(int ofGood, int units, boolean taking) {
            long amount = 0;
            int rest = units;
            int bond = NONE;
            for (int i = 0; i < number && rest > 0; i++) {
                bond = nextAfter(ofGood, bond);
                if (bond == NONE) {
                    break;
                }
                int taken = Math.min(rest, left[bond]);
                amount += (long) taken * duty[bond];
                rest -= taken;
                if (taking) {
                    left[bond] -= taken;
                }
            }
            return amount;
        }
    }

    private static final class Releases {
        long fines;
        final int[] units;
        final long[] cents;

        Releases() {
            fines = 0;
            units = new int[MOST_GOODS * REASONS];
            cents = new long[REASONS];
        }

        void become(Releases other) {
            fines = other.fines;
            System.arraycopy(other.units, 0, units, 0, MOST_GOODS * REASONS);
            System.arraycopy(other.cents, 0, cents, 0, REASONS);
        }

        int place(int good, int reason) {
            return good * REASONS + reason;
        }

        void add(int good, int reason, int releasedUnits, long releasedCents) {
            units[place(good, reason)] += releasedUnits;
            cents[reason] += releasedCents;
        }
    }

    /**
     * The states before the last changes, in a ring with one place to spare: the state before a change goes there
     * ahead of the change, and counts only when the change turns out to be no error.
     */
    private static final class History {
        int number;
        private int latest;
        private final Ship[] states;

        History() {
            number = 0;
            latest = 0;
            states = new Ship[MOST_STATES + 1];
            for (int i = 0; i <= MOST_STATES; i++) {
                states[i] = new Ship();
            }
        }

        void prepare(Ship ship) {
            states[spare()].become(ship);
        }

        int finish(int answer) {
            if (answer >= 0) {
                latest = spare();
                number = Math.min(number + 1, MOST_STATES);
            }
            return answer;
        }

        int restore(Ship ship) {
            if (number == 0) {
                return NOT_POSSIBLE;
            }
            ship.become(states[latest]);
            latest = latest > 0 ? latest - 1 : MOST_STATES;
            number--;
            return number;
        }

        private int spare() {
            return latest < MOST_STATES ? latest + 1 : 0;
        }
    }

    /** The text, the order that was read last, and what came of the last run. */
    private static final class OrderLog {
        int length;
        int faultPosition;
        /** 0 if there is no fault. */
        int faultReason;
        int faultCause;
        int ordersDone;
        private int position;
        private char kind;
        private final int[] numbers;
        private final char[] signs;

        OrderLog() {
            length = 0;
            numbers = new int[ORDER_NUMBERS];
            signs = new char[MOST_SIGNS];
        }

        int append(int character) {
            if (character < 32 || character > 126) {
                return INVALID_ARGUMENT;
            }
            if (length >= MOST_SIGNS) {
                return LIMIT_REACHED;
            }
            signs[length] = (char) character;
            length++;
            return length;
        }

        int empty() {
            int old = length;
            length = 0;
            return old;
        }

        /** Does the orders up to the first fault on the trial, which is the ship at first. */
        void tryOn(Ship trial, Ship ship) {
            trial.become(ship);
            faultReason = 0;
            ordersDone = 0;
            position = 0;
            for (int i = 0; i < MOST_SIGNS && position < length; i++) {
                int start = position;
                if (!readOrder()) {
                    noteFault(start, REASON_FORM, NOT_FOUND);
                    return;
                }
                int answer = doOrder(trial);
                if (answer < 0) {
                    noteFault(start, REASON_CALL, answer);
                    return;
                }
                ordersDone++;
            }
        }

        private void noteFault(int start, int reason, int cause) {
            faultPosition = start;
            faultReason = reason;
            faultCause = cause;
        }

        private boolean readOrder() {
            kind = signs[position];
            position++;
            int wanted = numbersOf(kind);
            for (int i = 0; i < wanted; i++) {
                if (i > 0 && !readSign(',')) {
                    return false;
                }
                if (!readNumber(i)) {
                    return false;
                }
            }
            return wanted > 0 && readSign(';');
        }

        /** How many numbers an order has; 0 if it begins no order. */
        private static int numbersOf(char kind) {
            switch (kind) {
                case 'z':
                case 't':
                case 'c':
                case 'd':
                    return 1;
                case 'u':
                case 'r':
                    return 3;
                case 'b':
                    return 4;
                default:
                    return 0;
            }
        }

        private boolean readSign(char wanted) {
            if (position >= length || signs[position] != wanted) {
                return false;
            }
            position++;
            return true;
        }

        private boolean readNumber(int index) {
            int value = 0;
            int digits = 0;
            while (digits < ORDER_DIGITS && position < length && signs[position] >= '0' && signs[position] <= '9') {
                value = value * 10 + signs[position] - '0';
                position++;
                digits++;
            }
            numbers[index] = value;
            return digits > 0;
        }

        private int doOrder(Ship ship) {
            switch (kind) {
                case 'z':
                    return ship.crossTo(numbers[0]);
                case 'u':
                    return ship.useUnits(numbers[0], numbers[1], numbers[2]);
                case 'r':
                    return ship.returnUnits(numbers[0], numbers[1], numbers[2]);
                case 'b':
                    return ship.breakUnits(numbers[0], numbers[1], numbers[2], numbers[3]);
                case 't':
                    return ship.tearSeal(numbers[0]);
                case 'c':
                    return ship.countLocker(numbers[0]);
                default:
                    return ship.passDays(numbers[0]);
            }
        }
    }
}
