/** 'If several exceptions apply, the one that is named first is thrown.': each pair that there is. */
final class OrderTests {
    private static final Class<IllegalArgumentException> BAD = IllegalArgumentException.class;
    private static final Class<IndexOutOfBoundsException> INDEX = IndexOutOfBoundsException.class;
    private static final int[] STRANGE = {-1, 1 << 30, Integer.MIN_VALUE, Integer.MAX_VALUE};

    private OrderTests() {
    }

    static void addTo(Checks checks) {
        checks.test("promise 2: addKey, no code before 8 keys", OrderTests::addKey);
        checks.test("promise 3: addDoor, no key before 8 doors", OrderTests::addDoor);
        checks.test("promise 4: setRights, no door before no key", OrderTests::setRights);
        checks.test("promise 17: cut, no key before 24 copies", OrderTests::cut);
        checks.test("promise 18: lend, no copy before bad days", OrderTests::lendCopyDays);
        checks.test("promise 18: lend, no person before bad days", OrderTests::lendPersonDays);
        checks.test("promise 18: lend, no person before the copy's state", OrderTests::lendPersonState);
        checks.test("promise 18: lend, bad days before the copy's state", OrderTests::lendDaysState);
        checks.test("promise 22: pass, bad days before day 9999", OrderTests::pass);
        checks.test("promise 27: holderAt, no copy before a bad day", OrderTests::holderAt);
        checks.test("promise 30: suggest, no person before no door", OrderTests::suggest);
    }

    private static void addKey(Checks c) {
        KeyCabinet full = Houses.full();
        c.refused(full, "addKey(1024) with 8 keys", BAD, () -> full.addKey(1024));
        for (int code : STRANGE) {
            c.refused(full, "addKey(" + code + ") with 8 keys", BAD, () -> full.addKey(code));
        }
    }

    private static void addDoor(Checks c) {
        KeyCabinet full = Houses.full();
        c.refused(full, "addDoor(256) with 8 doors", BAD, () -> full.addDoor(256));
        c.refused(full, "addDoor(511) with 8 doors", BAD, () -> full.addDoor(511));
        for (int set : STRANGE) {
            c.refused(full, "addDoor(" + set + ") with 8 doors", BAD, () -> full.addDoor(set));
        }
        KeyCabinet keyless = Houses.sized(0, 8, 0);
        c.refused(keyless, "addDoor(1) with 8 doors, no keys", BAD, () -> keyless.addDoor(1));
    }

    private static void setRights(Checks c) {
        KeyCabinet cabinet = Houses.lived();
        c.refused(cabinet, "setRights(4, 16)", INDEX, () -> cabinet.setRights(4, 16));
        c.refused(cabinet, "setRights(-1, 16)", INDEX, () -> cabinet.setRights(-1, 16));
        for (int strange : STRANGE) {
            c.refused(cabinet, "setRights(4, " + strange + ")", INDEX,
                    () -> cabinet.setRights(4, strange));
            c.refused(cabinet, "setRights(" + strange + ", 16)", INDEX,
                    () -> cabinet.setRights(strange, 16));
        }
    }

    private static void cut(Checks c) {
        KeyCabinet full = Houses.full();
        c.refused(full, "cut(8) with 24 copies", INDEX, () -> full.cut(8));
        for (int key : STRANGE) {
            c.refused(full, "cut(" + key + ") with 24 copies", INDEX, () -> full.cut(key));
        }
    }

    private static void lendCopyDays(Checks c) {
        KeyCabinet cabinet = Houses.lived();
        for (int days : new int[] {0, 100, -1, Integer.MIN_VALUE, Integer.MAX_VALUE}) {
            c.refused(cabinet, "lend(8, 0, " + days + ")", INDEX, () -> cabinet.lend(8, 0, days));
            c.refused(cabinet, "lend(-1, 0, " + days + ")", INDEX, () -> cabinet.lend(-1, 0, days));
            c.refused(cabinet, "lend(8, 8, " + days + ")", INDEX, () -> cabinet.lend(8, 8, days));
        }
        c.refused(cabinet, "lend(8, 8, 1)", INDEX, () -> cabinet.lend(8, 8, 1));
    }

    private static void lendPersonDays(Checks c) {
        KeyCabinet cabinet = Houses.lived();
        for (int days : new int[] {0, 100, -1, Integer.MIN_VALUE, Integer.MAX_VALUE}) {
            c.refused(cabinet, "lend(6, 8, " + days + ")", INDEX, () -> cabinet.lend(6, 8, days));
            c.refused(cabinet, "lend(6, -1, " + days + ")", INDEX, () -> cabinet.lend(6, -1, days));
        }
    }

    /** Copies 1 to 5 of lived can't be lent, each for a reason of its own. */
    private static void lendPersonState(Checks c) {
        KeyCabinet cabinet = Houses.lived();
        for (int n = 1; n <= 5; n++) {
            int copy = n;
            c.refused(cabinet, "lend(" + copy + ", 8, 1)", INDEX, () -> cabinet.lend(copy, 8, 1));
            c.refused(cabinet, "lend(" + copy + ", -1, 1)", INDEX, () -> cabinet.lend(copy, -1, 1));
            c.refused(cabinet, "lend(" + copy + ", 8, 0)", INDEX, () -> cabinet.lend(copy, 8, 0));
        }
    }

    private static void lendDaysState(Checks c) {
        KeyCabinet cabinet = Houses.lived();
        for (int n = 1; n <= 5; n++) {
            int copy = n;
            c.refused(cabinet, "lend(" + copy + ", 0, 0)", BAD, () -> cabinet.lend(copy, 0, 0));
            c.refused(cabinet, "lend(" + copy + ", 7, 100)", BAD, () -> cabinet.lend(copy, 7, 100));
        }
    }

    private static void pass(Checks c) {
        KeyCabinet cabinet = Houses.livedTo(9999);
        c.refused(cabinet, "pass(100) on day 9999", BAD, () -> cabinet.pass(100));
        c.refused(cabinet, "pass(MAX) on day 9999", BAD, () -> cabinet.pass(Integer.MAX_VALUE));
        KeyCabinet sooner = new KeyCabinet();
        c.refused(sooner, "pass(10000) on day 0", BAD, () -> sooner.pass(10000));
    }

    private static void holderAt(Checks c) {
        KeyCabinet cabinet = Houses.lived();
        c.refused(cabinet, "holderAt(8, 13)", INDEX, () -> cabinet.holderAt(8, 13));
        c.refused(cabinet, "holderAt(-1, -1)", INDEX, () -> cabinet.holderAt(-1, -1));
        for (int strange : STRANGE) {
            c.refused(cabinet, "holderAt(8, " + strange + ")", INDEX,
                    () -> cabinet.holderAt(8, strange));
            c.refused(cabinet, "holderAt(" + strange + ", 13)", INDEX,
                    () -> cabinet.holderAt(strange, 13));
        }
    }

    private static void suggest(Checks c) {
        KeyCabinet cabinet = Houses.lived();
        c.refused(cabinet, "suggest(8, 16)", INDEX, () -> cabinet.suggest(8, 16));
        for (int strange : STRANGE) {
            c.refused(cabinet, "suggest(8, " + strange + ")", INDEX,
                    () -> cabinet.suggest(8, strange));
            c.refused(cabinet, "suggest(" + strange + ", 16)", INDEX,
                    () -> cabinet.suggest(strange, 16));
        }
    }
}
