/**
 * A cabinet of keys for a house with a plan of locks: it tells who can open what, which copies had
 * best be lent, and how a key is replaced with the least harm.
 *
 * <p>This class is the face: it tests what it is given, throws, and joins the plan with the ledger.
 * Sets of keys, doors and copies are told as sums of the powers 2^k of their members k.
 */
public final class KeyCabinet {
    private static final int NONE = -1;
    private static final int PERSONS = 8;
    private static final int MOST_DAYS = 99;
    private static final int LAST_DAY = 9999;
    private static final int DIGEST_START = 173;
    private static final int DIGEST_FACTOR = 31;

    private final Plan plan;
    private final Ledger ledger;
    /** Rows for suggest: by key, the copy of it that would be lent, and the doors that it opens. */
    private final int[] copyToLend;
    private final int[] doorsOpened;
    private int day = 0;

    public KeyCabinet() {
        plan = new Plan();
        ledger = new Ledger();
        copyToLend = new int[Plan.MOST_KEYS];
        doorsOpened = new int[Plan.MOST_KEYS];
    }

    // ---- the plan

    public int addKey(int code) throws IllegalArgumentException, IllegalStateException {
        if (code < 0 || code >= Plan.CODES) {
            throw new IllegalArgumentException("a code is 0 to 1023");
        }
        if (plan.keys >= Plan.MOST_KEYS) {
            throw new IllegalStateException("there are 8 keys");
        }
        if (plan.isTaken(code)) {
            throw new IllegalStateException("a key has this code");
        }
        return plan.takeKey(code);
    }

    public int addDoor(int rights) throws IllegalArgumentException, IllegalStateException {
        needRights(rights);
        if (plan.doors >= Plan.MOST_DOORS) {
            throw new IllegalStateException("there are 8 doors");
        }
        return plan.takeDoor(rights);
    }

    public int setRights(int door, int rights)
            throws IndexOutOfBoundsException, IllegalArgumentException {
        needDoor(door);
        needRights(rights);
        int before = plan.rightsOf[door];
        plan.giveRights(door, rights);
        return before;
    }

    public int keyCount() {
        return plan.keys;
    }

    public int doorCount() {
        return plan.doors;
    }

    public int code(int key) throws IndexOutOfBoundsException {
        needKey(key);
        return plan.codeOf[key];
    }

    public int pins(int door, int position) throws IndexOutOfBoundsException {
        needDoor(door);
        if (position < 0 || position >= Plan.POSITIONS) {
            throw new IndexOutOfBoundsException("a position is 0 to 4");
        }
        return plan.pinsAt(door, position);
    }

    public boolean opens(int key, int door) throws IndexOutOfBoundsException {
        needKey(key);
        needDoor(door);
        return plan.keyOpens(key, door);
    }

    public int openers(int door) throws IndexOutOfBoundsException {
        needDoor(door);
        return plan.openersOf(door);
    }

    public int doors(int key) throws IndexOutOfBoundsException {
        needKey(key);
        return plan.doorsOf(key);
    }

    public int strays() {
        return plan.countStrays();
    }

    public int codes(int door) throws IndexOutOfBoundsException {
        needDoor(door);
        return plan.countCodes(door);
    }

    public boolean isAbove(int a, int b) throws IndexOutOfBoundsException {
        needKey(a);
        needKey(b);
        int doorsOfA = plan.doorsOf(a);
        int doorsOfB = plan.doorsOf(b);
        return contains(doorsOfA, doorsOfB) && doorsOfA != doorsOfB;
    }

    public int work() {
        return plan.pinsMoved;
    }

    public int replace(int key) throws IndexOutOfBoundsException {
        needKey(key);
        int code = plan.bestCodeFor(key);
        if (code == NONE) {
            return NONE;
        }
        plan.giveCode(key, code);
        ledger.voidCopiesOf(key, day);
        return code;
    }

    // ---- copies

    public int cut(int key) throws IndexOutOfBoundsException, IllegalStateException {
        needKey(key);
        if (ledger.copies >= Ledger.MOST_COPIES) {
            throw new IllegalStateException("there are 24 copies");
        }
        return ledger.takeCopy(key);
    }

    public int lend(int copy, int person, int days)
            throws IndexOutOfBoundsException, IllegalArgumentException, IllegalStateException {
        needCopy(copy);
        needPerson(person);
        needDays(days);
        if (!ledger.canBeLent(copy)) {
            throw new IllegalStateException("it is not in the cabinet, or it has been lent 9 times");
        }
        int due = day + days;
        ledger.startLoan(copy, person, day, due);
        return due;
    }

    public int giveBack(int copy) throws IndexOutOfBoundsException, IllegalStateException {
        needCopy(copy);
        if (ledger.stateOf[copy] != Ledger.LENT) {
            throw new IllegalStateException("it is not lent");
        }
        int late = Math.max(0, day - ledger.dueOf(copy));
        ledger.move(copy, Ledger.IN_CABINET, day);
        return late;
    }

    public int lose(int copy) throws IndexOutOfBoundsException, IllegalStateException {
        needCopy(copy);
        int state = ledger.stateOf[copy];
        if (state == Ledger.LOST || state == Ledger.VOID) {
            throw new IllegalStateException("it is lost or void");
        }
        ledger.move(copy, Ledger.LOST, day);
        return plan.doorsOf(ledger.keyOf[copy]);
    }

    public int find(int copy) throws IndexOutOfBoundsException, IllegalStateException {
        needCopy(copy);
        if (ledger.stateOf[copy] != Ledger.LOST) {
            throw new IllegalStateException("it is not lost");
        }
        ledger.move(copy, Ledger.IN_CABINET, day);
        return doorsAtRisk();
    }

    public int pass(int days) throws IllegalArgumentException, IllegalStateException {
        needDays(days);
        if (day + days > LAST_DAY) {
            throw new IllegalStateException("it would be later than day 9999");
        }
        day += days;
        return day;
    }

    public int today() {
        return day;
    }

    public int copyCount() {
        return ledger.copies;
    }

    public int copy(int copy, int what) throws IndexOutOfBoundsException {
        needCopy(copy);
        switch (what) {
            case 0:
                return ledger.keyOf[copy];
            case 1:
                return ledger.stateOf[copy];
            case 2:
                return ledger.holderOf(copy);
            case 3:
                return ledger.dueOf(copy);
            case 4:
                return ledger.timesLent[copy];
            default:
                throw new IndexOutOfBoundsException("what is 0 to 4");
        }
    }

    public int overdue() {
        return ledger.copiesDueBefore(day);
    }

    public int holderAt(int copy, int day)
            throws IndexOutOfBoundsException, IllegalArgumentException {
        needCopy(copy);
        if (day < 0 || day > this.day) {
            throw new IllegalArgumentException("the day is 0 to today");
        }
        return ledger.holderOn(copy, day);
    }

    // ---- persons

    public int reach(int person) throws IndexOutOfBoundsException {
        needPerson(person);
        return doorsReached(person);
    }

    public int risk() {
        return doorsAtRisk();
    }

    public int suggest(int person, int doors)
            throws IndexOutOfBoundsException, IllegalArgumentException {
        needPerson(person);
        if (!isSetOf(plan.doors, doors)) {
            throw new IllegalArgumentException("it contains something that is no door");
        }
        for (int key = 0; key < plan.keys; key++) {
            copyToLend[key] = ledger.firstToLend(key);
            doorsOpened[key] = plan.doorsOf(key);
        }
        return bestCopies(doorsReached(person), doors);
    }

    public double exposure() {
        if (plan.doors <= 0) {
            return 0.0;
        }
        int exposed = doorsAtRisk();
        for (int person = 0; person < PERSONS; person++) {
            exposed |= doorsReached(person);
        }
        return (double) Integer.bitCount(exposed) / (double) plan.doors;
    }

    public long digest() {
        long d = DIGEST_START;
        d = mix(d, plan.keys);
        for (int key = 0; key < plan.keys; key++) {
            d = mix(d, plan.codeOf[key]);
        }
        d = mix(d, plan.doors);
        for (int door = 0; door < plan.doors; door++) {
            d = mixDoor(d, door);
        }
        d = mix(d, plan.pinsMoved);
        d = mix(d, day);
        d = mix(d, ledger.copies);
        for (int copy = 0; copy < ledger.copies; copy++) {
            d = mixCopy(d, copy);
        }
        return d;
    }

    // ---- what stands behind the face

    private void needKey(int key) {
        if (key < 0 || key >= plan.keys) {
            throw new IndexOutOfBoundsException("there is no such key");
        }
    }

    private void needDoor(int door) {
        if (door < 0 || door >= plan.doors) {
            throw new IndexOutOfBoundsException("there is no such door");
        }
    }

    private void needCopy(int copy) {
        if (copy < 0 || copy >= ledger.copies) {
            throw new IndexOutOfBoundsException("there is no such copy");
        }
    }

    private void needPerson(int person) {
        if (person < 0 || person >= PERSONS) {
            throw new IndexOutOfBoundsException("a person is 0 to 7");
        }
    }

    private void needRights(int rights) {
        if (!isSetOf(plan.keys, rights)) {
            throw new IllegalArgumentException("it contains something that is no key");
        }
    }

    private void needDays(int days) {
        if (days < 1 || days > MOST_DAYS) {
            throw new IllegalArgumentException("days are 1 to 99");
        }
    }

    /** Whether all members of the set are below the count, which is at most 8. */
    private static boolean isSetOf(int count, int set) {
        return (set & -(1 << count)) == 0;
    }

    private static boolean contains(int set, int part) {
        return (part & ~set) == 0;
    }

    private int doorsReached(int person) {
        return plan.doorsOfAll(ledger.keysHeldBy(person));
    }

    private int doorsAtRisk() {
        return plan.doorsOfAll(ledger.keysLost());
    }

    /**
     * The best set of copies for somebody who can open some doors and wants others. A second copy of
     * a key opens nothing more, so it is enough to try each set of keys, with the first copy of each.
     */
    private int bestCopies(int reached, int wanted) {
        int best = NONE;
        int bestRank = 0;
        for (int keys = 0; keys < 1 << plan.keys; keys++) {
            int opened = reached | doorsOpenedBy(keys);
            int copies = contains(opened, wanted) ? copiesOf(keys) : NONE;
            if (copies == NONE) {
                continue;
            }
            // One copy less outweighs all the doors that there can be.
            int rank = Integer.bitCount(copies) * (Plan.MOST_DOORS + 1) + Integer.bitCount(opened);
            if (best == NONE || rank < bestRank || (rank == bestRank && copies < best)) {
                best = copies;
                bestRank = rank;
            }
        }
        return best;
    }

    private int doorsOpenedBy(int keys) {
        int opened = 0;
        for (int key = 0; key < plan.keys; key++) {
            if ((keys >> key & 1) == 1) {
                opened |= doorsOpened[key];
            }
        }
        return opened;
    }

    /** The first copy that can be lent of each of these keys; NONE if there is a key without one. */
    private int copiesOf(int keys) {
        int copies = 0;
        for (int key = 0; key < plan.keys; key++) {
            if ((keys >> key & 1) == 1) {
                if (copyToLend[key] == NONE) {
                    return NONE;
                }
                copies |= 1 << copyToLend[key];
            }
        }
        return copies;
    }

    private long mixDoor(long d, int door) {
        long mixed = mix(d, plan.rightsOf[door]);
        for (int position = 0; position < Plan.POSITIONS; position++) {
            mixed = mix(mixed, plan.pinsAt(door, position));
        }
        return mixed;
    }

    private long mixCopy(long d, int copy) {
        long mixed = mix(d, ledger.keyOf[copy]);
        mixed = mix(mixed, ledger.stateOf[copy]);
        mixed = mix(mixed, ledger.holderOf(copy));
        mixed = mix(mixed, ledger.dueOf(copy));
        return mix(mixed, ledger.timesLent[copy]);
    }

    private static long mix(long d, long x) {
        return d * DIGEST_FACTOR + x;
    }

    /**
     * Keys and doors. The teeth of a code and the pins of a door are told alike: four bits for each
     * position, a bit a digit. So a key fits if none of its teeth is missing among the pins.
     * The callers have tested the keys and doors that they name.
     */
    private static final class Plan {
        static final int MOST_KEYS = 8;
        static final int MOST_DOORS = 8;
        static final int CODES = 1024;
        static final int POSITIONS = 5;
        static final int DIGITS = 4;
        static final int DIGIT_BITS = 2;

        final int[] codeOf = new int[MOST_KEYS];
        final int[] teethOf = new int[MOST_KEYS];
        final int[] rightsOf = new int[MOST_DOORS];
        final int[] pinsOf = new int[MOST_DOORS];
        /** A row for bestCodeFor: the pins of each door without those that only one key is for. */
        final int[] pinsWithout = new int[MOST_DOORS];
        int keys = 0;
        int doors = 0;
        int pinsMoved = 0;

        boolean isTaken(int code) {
            for (int key = 0; key < keys; key++) {
                if (codeOf[key] == code) {
                    return true;
                }
            }
            return false;
        }

        int takeKey(int code) {
            int key = keys;
            codeOf[key] = code;
            teethOf[key] = teeth(code);
            keys++;
            return key;
        }

        int takeDoor(int rights) {
            int door = doors;
            doors++;
            giveRights(door, rights);
            return door;
        }

        void giveRights(int door, int rights) {
            rightsOf[door] = rights;
            changePins(door);
        }

        void giveCode(int key, int code) {
            codeOf[key] = code;
            teethOf[key] = teeth(code);
            for (int door = 0; door < doors; door++) {
                changePins(door);
            }
        }

        void changePins(int door) {
            int before = pinsOf[door];
            pinsOf[door] = pinsFor(rightsOf[door]);
            pinsMoved += Integer.bitCount(before ^ pinsOf[door]);
        }

        int pinsFor(int rights) {
            int pins = 0;
            for (int key = 0; key < keys; key++) {
                if ((rights >> key & 1) == 1) {
                    pins |= teethOf[key];
                }
            }
            return pins;
        }

        /** The first position, that of the highest digit, has the lowest bits. */
        static int teeth(int code) {
            int teeth = 0;
            for (int position = 0; position < POSITIONS; position++) {
                int digit = code >> (POSITIONS - 1 - position) * DIGIT_BITS & DIGITS - 1;
                teeth |= 1 << position * DIGITS + digit;
            }
            return teeth;
        }

        int pinsAt(int door, int position) {
            return pinsOf[door] >> position * DIGITS & (1 << DIGITS) - 1;
        }

        boolean keyOpens(int key, int door) {
            return contains(pinsOf[door], teethOf[key]);
        }

        int openersOf(int door) {
            int openers = 0;
            for (int key = 0; key < keys; key++) {
                if (keyOpens(key, door)) {
                    openers |= 1 << key;
                }
            }
            return openers;
        }

        int doorsOf(int key) {
            int opened = 0;
            for (int door = 0; door < doors; door++) {
                if (keyOpens(key, door)) {
                    opened |= 1 << door;
                }
            }
            return opened;
        }

        int doorsOfAll(int keySet) {
            int opened = 0;
            for (int key = 0; key < keys; key++) {
                if ((keySet >> key & 1) == 1) {
                    opened |= doorsOf(key);
                }
            }
            return opened;
        }

        int countStrays() {
            int count = 0;
            for (int door = 0; door < doors; door++) {
                count += Integer.bitCount(openersOf(door) & ~rightsOf[door]);
            }
            return count;
        }

        int countCodes(int door) {
            int count = 1;
            for (int position = 0; position < POSITIONS; position++) {
                count *= Integer.bitCount(pinsAt(door, position));
            }
            return count;
        }

        /** The best new code of a key, or NONE. */
        int bestCodeFor(int key) {
            for (int door = 0; door < doors; door++) {
                pinsWithout[door] = pinsFor(rightsOf[door] & ~(1 << key));
            }
            int best = NONE;
            int fewestStrays = MOST_KEYS * MOST_DOORS;
            int leastWork = 0;
            for (int code = 0; code < CODES; code++) {
                int teeth = teeth(code);
                if (isTaken(code) || oldCodeOpens(key, teeth)) {
                    continue;
                }
                int strays = straysWith(key, teeth, fewestStrays);
                if (strays > fewestStrays) {
                    continue;
                }
                int work = workWith(key, teeth);
                // Codes come in rising order, so of equals the first one, the smallest, stays.
                if (best == NONE || strays < fewestStrays || work < leastWork) {
                    best = code;
                    fewestStrays = strays;
                    leastWork = work;
                }
            }
            return best;
        }

        /** The pins that a door would have if the key had these teeth. */
        int pinsWith(int key, int teeth, int door) {
            boolean hasRight = (rightsOf[door] >> key & 1) == 1;
            return hasRight ? pinsWithout[door] | teeth : pinsWithout[door];
        }

        boolean oldCodeOpens(int key, int teeth) {
            for (int door = 0; door < doors; door++) {
                if (contains(pinsWith(key, teeth, door), teethOf[key])) {
                    return true;
                }
            }
            return false;
        }

        /** How many strays there would be; no more doors are looked at once there are too many. */
        int straysWith(int key, int teeth, int most) {
            int count = 0;
            for (int door = 0; door < doors && count <= most; door++) {
                int pins = pinsWith(key, teeth, door);
                for (int other = 0; other < keys; other++) {
                    boolean hasRight = (rightsOf[door] >> other & 1) == 1;
                    if (!hasRight && contains(pins, other == key ? teeth : teethOf[other])) {
                        count++;
                    }
                }
            }
            return count;
        }

        int workWith(int key, int teeth) {
            int work = 0;
            for (int door = 0; door < doors; door++) {
                work += Integer.bitCount(pinsOf[door] ^ pinsWith(key, teeth, door));
            }
            return work;
        }
    }

    /**
     * The copies, and the loans of each of them, which are kept so that holders of past days can be
     * told. The callers have tested the copies that they name.
     */
    private static final class Ledger {
        static final int MOST_COPIES = 24;
        static final int MOST_LOANS = 9;
        static final int IN_CABINET = 0;
        static final int LENT = 1;
        static final int LOST = 2;
        static final int VOID = 3;
        static final int NO_END = LAST_DAY + 1;

        final int[] keyOf = new int[MOST_COPIES];
        final int[] stateOf = new int[MOST_COPIES];
        final int[] timesLent = new int[MOST_COPIES];
        /** The loans of a copy stand one behind another, from copy * MOST_LOANS on. */
        final int[] loanPerson = new int[MOST_COPIES * MOST_LOANS];
        final int[] loanStart = new int[MOST_COPIES * MOST_LOANS];
        final int[] loanDue = new int[MOST_COPIES * MOST_LOANS];
        /** The day on which the loan ended; later than all days while it goes on. */
        final int[] loanEnd = new int[MOST_COPIES * MOST_LOANS];
        int copies = 0;

        int takeCopy(int key) {
            int copy = copies;
            keyOf[copy] = key;
            stateOf[copy] = IN_CABINET;
            copies++;
            return copy;
        }

        boolean canBeLent(int copy) {
            return stateOf[copy] == IN_CABINET && timesLent[copy] < MOST_LOANS;
        }

        void startLoan(int copy, int person, int day, int due) {
            timesLent[copy]++;
            stateOf[copy] = LENT;
            int loan = lastLoan(copy);
            loanPerson[loan] = person;
            loanStart[loan] = day;
            loanDue[loan] = due;
            loanEnd[loan] = NO_END;
        }

        /** Moves a copy to a state other than LENT; a loan that goes on ends by it. */
        void move(int copy, int state, int day) {
            if (stateOf[copy] == LENT) {
                loanEnd[lastLoan(copy)] = day;
            }
            stateOf[copy] = state;
        }

        void voidCopiesOf(int key, int day) {
            for (int copy = 0; copy < copies; copy++) {
                if (keyOf[copy] == key) {
                    move(copy, VOID, day);
                }
            }
        }

        /** The place of the last loan of a copy that has been lent. */
        int lastLoan(int copy) {
            return copy * MOST_LOANS + timesLent[copy] - 1;
        }

        int holderOf(int copy) {
            return stateOf[copy] == LENT ? loanPerson[lastLoan(copy)] : NONE;
        }

        int dueOf(int copy) {
            return stateOf[copy] == LENT ? loanDue[lastLoan(copy)] : NONE;
        }

        /** Who had it at the end of the day: a loan that ended on that day does not count. */
        int holderOn(int copy, int day) {
            for (int n = 0; n < timesLent[copy]; n++) {
                int loan = copy * MOST_LOANS + n;
                if (loanStart[loan] <= day && day < loanEnd[loan]) {
                    return loanPerson[loan];
                }
            }
            return NONE;
        }

        int copiesDueBefore(int day) {
            int late = 0;
            for (int copy = 0; copy < copies; copy++) {
                if (stateOf[copy] == LENT && dueOf(copy) < day) {
                    late |= 1 << copy;
                }
            }
            return late;
        }

        int keysHeldBy(int person) {
            int held = 0;
            for (int copy = 0; copy < copies; copy++) {
                if (holderOf(copy) == person) {
                    held |= 1 << keyOf[copy];
                }
            }
            return held;
        }

        int keysLost() {
            int lost = 0;
            for (int copy = 0; copy < copies; copy++) {
                if (stateOf[copy] == LOST) {
                    lost |= 1 << keyOf[copy];
                }
            }
            return lost;
        }

        int firstToLend(int key) {
            for (int copy = 0; copy < copies; copy++) {
                if (keyOf[copy] == key && canBeLent(copy)) {
                    return copy;
                }
            }
            return NONE;
        }
    }
}
