import java.util.TreeSet;

/**
 * Each 'Throws ..' row that names a range: all values that are allowed, the first ones beyond on
 * both sides, and far ones.
 */
final class LimitTests {
    private static final Class<IllegalArgumentException> BAD = IllegalArgumentException.class;
    private static final Class<IndexOutOfBoundsException> INDEX = IndexOutOfBoundsException.class;
    /** How many keys or doors there may be: the edges, and something between them. */
    private static final int[] COUNTS = {0, 1, 3, 7, 8};

    private interface Use {
        Object on(KeyCabinet cabinet, int value);
    }

    private LimitTests() {
    }

    static void addTo(Checks checks) {
        checks.test("promise 2: addKey, codes 0 to 1023", LimitTests::addKey);
        checks.test("promise 3: addDoor, sets of the keys there are", LimitTests::addDoor);
        checks.test("promise 4: setRights, the doors there are", LimitTests::setRightsDoor);
        checks.test("promise 4: setRights, sets of the keys there are", LimitTests::setRightsSet);
        checks.test("promise 8: pins, positions 0 to 4", LimitTests::pins);
        checks.test("promises 7, 9, 11, 14, 16, 17: the keys there are", LimitTests::keys);
        checks.test("promises 8, 9, 10, 13: the doors there are", LimitTests::doors);
        checks.test("promises 18 to 21, 25, 27: the copies there are", LimitTests::copies);
        checks.test("promises 18, 28, 30: persons 0 to 7", LimitTests::persons);
        checks.test("promise 18: lend, days 1 to 99", LimitTests::lendDays);
        checks.test("promise 22: pass, days 1 to 99", LimitTests::pass);
        checks.test("promise 25: copy, what 0 to 4", LimitTests::copyWhat);
        checks.test("promise 27: holderAt, day 0 to today", LimitTests::holderAt);
        checks.test("promise 30: suggest, sets of the doors there are", LimitTests::suggest);
    }

    private static void addKey(Checks c) {
        range(c, KeyCabinet::new, "addKey", BAD, 0, 1023, (x, v) -> x.addKey(v));
    }

    private static void addDoor(Checks c) {
        for (int keys = 0; keys <= 8; keys++) {
            int count = keys;
            set(c, () -> Houses.sized(count, 0, 0), "addDoor", keys, (x, v) -> x.addDoor(v));
        }
    }

    private static void setRightsDoor(Checks c) {
        for (int doors : COUNTS) {
            range(c, () -> Houses.sized(2, doors, 0), "setRights .. 1", INDEX, 0, doors - 1,
                    (x, v) -> x.setRights(v, 1));
        }
    }

    private static void setRightsSet(Checks c) {
        for (int keys = 0; keys <= 8; keys++) {
            int count = keys;
            set(c, () -> Houses.sized(count, 8, 0), "setRights 0 ..", keys,
                    (x, v) -> x.setRights(0, v));
            set(c, () -> Houses.sized(count, 8, 0), "setRights 7 ..", keys,
                    (x, v) -> x.setRights(7, v));
        }
    }

    private static void pins(Checks c) {
        range(c, () -> Houses.sized(2, 2, 0), "pins 0 ..", INDEX, 0, 4, (x, v) -> x.pins(0, v));
        range(c, () -> Houses.sized(2, 2, 0), "pins 1 ..", INDEX, 0, 4, (x, v) -> x.pins(1, v));
        range(c, () -> Houses.sized(8, 8, 0), "pins 7 ..", INDEX, 0, 4, (x, v) -> x.pins(7, v));
    }

    private static void keys(Checks c) {
        for (int keys : COUNTS) {
            Houses.House house = () -> Houses.sized(keys, 8, 0);
            int last = keys - 1;
            range(c, house, "code", INDEX, 0, last, (x, v) -> x.code(v));
            range(c, house, "opens .. 7", INDEX, 0, last, (x, v) -> x.opens(v, 7));
            range(c, house, "doors", INDEX, 0, last, (x, v) -> x.doors(v));
            range(c, house, "replace", INDEX, 0, last, (x, v) -> x.replace(v));
            range(c, house, "cut", INDEX, 0, last, (x, v) -> x.cut(v));
            range(c, house, "isAbove .. itself", INDEX, 0, last, (x, v) -> x.isAbove(v, v));
            if (keys > 0) {
                range(c, house, "isAbove .. 0", INDEX, 0, last, (x, v) -> x.isAbove(v, 0));
                range(c, house, "isAbove 0 ..", INDEX, 0, last, (x, v) -> x.isAbove(0, v));
            }
        }
    }

    private static void doors(Checks c) {
        for (int doors : COUNTS) {
            Houses.House house = () -> Houses.sized(8, doors, 0);
            int last = doors - 1;
            range(c, house, "pins .. 4", INDEX, 0, last, (x, v) -> x.pins(v, 4));
            range(c, house, "opens 7 ..", INDEX, 0, last, (x, v) -> x.opens(7, v));
            range(c, house, "openers", INDEX, 0, last, (x, v) -> x.openers(v));
            range(c, house, "codes", INDEX, 0, last, (x, v) -> x.codes(v));
        }
    }

    private static void copies(Checks c) {
        for (int copies : new int[] {0, 1, 8, 23, 24}) {
            Houses.House house = () -> Houses.sized(3, 3, copies);
            int last = copies - 1;
            range(c, house, "lend .. 0 1", INDEX, 0, last, (x, v) -> x.lend(v, 0, 1));
            range(c, house, "lose", INDEX, 0, last, (x, v) -> x.lose(v));
            range(c, house, "copy .. 4", INDEX, 0, last, (x, v) -> x.copy(v, 4));
            range(c, house, "holderAt .. 0", INDEX, 0, last, (x, v) -> x.holderAt(v, 0));
            range(c, () -> lent(copies), "giveBack", INDEX, 0, last, (x, v) -> x.giveBack(v));
            range(c, () -> lost(copies), "find", INDEX, 0, last, (x, v) -> x.find(v));
        }
    }

    private static KeyCabinet lent(int copies) {
        KeyCabinet cabinet = Houses.sized(3, 3, copies);
        for (int copy = 0; copy < copies; copy++) {
            cabinet.lend(copy, 7, 1);
        }
        return cabinet;
    }

    private static KeyCabinet lost(int copies) {
        KeyCabinet cabinet = Houses.sized(3, 3, copies);
        for (int copy = 0; copy < copies; copy++) {
            cabinet.lose(copy);
        }
        return cabinet;
    }

    private static void persons(Checks c) {
        Houses.House house = () -> Houses.sized(2, 2, 2);
        range(c, house, "lend 0 .. 1", INDEX, 0, 7, (x, v) -> x.lend(0, v, 1));
        range(c, house, "reach", INDEX, 0, 7, (x, v) -> x.reach(v));
        range(c, house, "suggest .. 3", INDEX, 0, 7, (x, v) -> x.suggest(v, 3));
        range(c, KeyCabinet::new, "reach in a new object", INDEX, 0, 7, (x, v) -> x.reach(v));
        range(c, KeyCabinet::new, "suggest .. 0 in a new object", INDEX, 0, 7,
                (x, v) -> x.suggest(v, 0));
    }

    private static void lendDays(Checks c) {
        range(c, () -> Houses.sized(1, 1, 1), "lend 0 0 ..", BAD, 1, 99, (x, v) -> x.lend(0, 0, v));
        range(c, () -> lastDay(0), "lend 0 0 .. on day 9999", BAD, 1, 99, (x, v) -> x.lend(0, 0, v));
    }

    private static void pass(Checks c) {
        range(c, KeyCabinet::new, "pass", BAD, 1, 99, (x, v) -> x.pass(v));
        range(c, () -> lastDay(99), "pass on day 9900", BAD, 1, 99, (x, v) -> x.pass(v));
    }

    /** So many days before day 9999, with a copy. */
    private static KeyCabinet lastDay(int before) {
        KeyCabinet cabinet = Houses.sized(1, 1, 1);
        Houses.passTo(cabinet, 9999 - before);
        return cabinet;
    }

    private static void copyWhat(Checks c) {
        range(c, () -> Houses.sized(2, 2, 2), "copy 0 ..", INDEX, 0, 4, (x, v) -> x.copy(0, v));
        range(c, () -> lent(24), "copy 23 ..", INDEX, 0, 4, (x, v) -> x.copy(23, v));
    }

    private static void holderAt(Checks c) {
        for (int today : new int[] {0, 1, 7}) {
            range(c, () -> onDay(today), "holderAt 0 .. on day " + today, BAD, 0, today,
                    (x, v) -> x.holderAt(0, v));
        }
        KeyCabinet late = lastDay(0);
        c.same("holderAt(0, 0)", late.holderAt(0, 0), -1);
        c.same("holderAt(0, 9999)", late.holderAt(0, 9999), -1);
        c.refused(late, "holderAt(0, 10000)", BAD, () -> late.holderAt(0, 10000));
        c.refused(late, "holderAt(0, -1)", BAD, () -> late.holderAt(0, -1));
    }

    private static KeyCabinet onDay(int today) {
        KeyCabinet cabinet = Houses.sized(1, 1, 1);
        cabinet.lend(0, 3, 1);
        Houses.passTo(cabinet, today);
        return cabinet;
    }

    private static void suggest(Checks c) {
        for (int doors = 0; doors <= 8; doors++) {
            int count = doors;
            set(c, () -> Houses.sized(8, count, 8), "suggest 0 ..", doors,
                    (x, v) -> x.suggest(0, v));
        }
    }

    /** A set of so many members: a range too, but members beyond it may come with those of it. */
    private static void set(Checks c, Houses.House house, String text, int members, Use use) {
        int all = (1 << members) - 1;
        range(c, house, text, BAD, 0, all, use);
        KeyCabinet cabinet = house.make();
        for (int member = members; member < 32; member++) {
            int alone = 1 << member;
            c.refused(cabinet, text + " " + alone, BAD, () -> use.on(cabinet, alone));
            c.refused(cabinet, text + " " + (alone | all), BAD, () -> use.on(cabinet, alone | all));
        }
    }

    private static void range(Checks c, Houses.House house, String text,
            Class<? extends RuntimeException> due, int low, int high, Use use) {
        for (int value = low; value <= high; value++) {
            KeyCabinet cabinet = house.make();
            int allowed = value;
            boolean thrown = Checks.outcome(() -> use.on(cabinet, allowed)) instanceof String;
            c.same(text + " " + allowed + " throws", thrown, false);
        }
        KeyCabinet cabinet = house.make();
        for (int value : beyond(low, high)) {
            c.refused(cabinet, text + " " + value, due, () -> use.on(cabinet, value));
        }
    }

    /** Numbers that would fall into the range too, if they lost their sign or their higher bits. */
    private static TreeSet<Integer> beyond(int low, int high) {
        TreeSet<Integer> all = new TreeSet<>();
        for (int near = 1; near <= 3; near++) {
            all.add(low - near);
            all.add(high + near);
        }
        for (int bits = 3; bits < 32; bits++) {
            all.add(low + (1 << bits));
            all.add(low - (1 << bits));
            all.add(-high - (1 << bits));
        }
        all.add(-high);
        all.add(Integer.MIN_VALUE);
        all.add(Integer.MIN_VALUE + 1);
        all.add(Integer.MAX_VALUE);
        all.add(Integer.MAX_VALUE - 1);
        all.removeIf(value -> value >= low && value <= high);
        return all;
    }
}
