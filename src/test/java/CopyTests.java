/** Promises 17 to 25: copies and days. */
final class CopyTests {
    private static final Class<IllegalArgumentException> BAD = IllegalArgumentException.class;
    private static final Class<IllegalStateException> STATE = IllegalStateException.class;
    private static final Class<IndexOutOfBoundsException> INDEX = IndexOutOfBoundsException.class;

    private CopyTests() {
    }

    static void addTo(Checks checks) {
        checks.test("promise 17: cut", CopyTests::cut);
        checks.test("promise 18: lend", CopyTests::lend);
        checks.test("promise 18: lend refuses in the named order", CopyTests::lendRefuses);
        checks.test("promise 18: lend, 9 times at most", CopyTests::lendLimit);
        checks.test("promise 19: giveBack", CopyTests::giveBack);
        checks.test("promise 20: lose", CopyTests::lose);
        checks.test("promise 21: find", CopyTests::find);
        checks.test("promise 22: pass", CopyTests::pass);
        checks.test("promise 22: pass, to day 9999", CopyTests::passLimit);
        checks.test("promise 23: today", CopyTests::today);
        checks.test("promise 24: copyCount", CopyTests::copyCount);
        checks.test("promise 25: copy", CopyTests::copy);
    }

    /** Keys 0 and 1, a door for each, and three copies: of key 0, of key 1, of key 0. */
    static KeyCabinet withCopies() {
        KeyCabinet cabinet = Houses.withKeys("00000", "11111");
        cabinet.addDoor(0b01);
        cabinet.addDoor(0b10);
        cabinet.cut(0);
        cabinet.cut(1);
        cabinet.cut(0);
        return cabinet;
    }

    /** Copy 2 has become void; copies 0 and 1 are of other keys. */
    private static KeyCabinet withVoid() {
        KeyCabinet cabinet = withCopies();
        cabinet.addKey(Houses.number("22222"));
        cabinet.cut(2);
        cabinet.replace(2);
        return cabinet;
    }

    private static void cut(Checks c) {
        KeyCabinet cabinet = Houses.withKeys("00000", "11111");
        c.same("cut(1)", cabinet.cut(1), 0);
        c.same("cut(0)", cabinet.cut(0), 1);
        c.same("copy(0, 0)", cabinet.copy(0, 0), 1);
        c.same("copy(1, 0)", cabinet.copy(1, 0), 0);
        c.same("copy(1, 1)", cabinet.copy(1, 1), 0);
        c.refused(cabinet, "cut(2)", INDEX, () -> cabinet.cut(2));
        c.refused(cabinet, "cut(-1)", INDEX, () -> cabinet.cut(-1));
        for (int copy = 2; copy < 24; copy++) {
            c.same("cut(0)", cabinet.cut(0), copy);
        }
        c.refused(cabinet, "the 25th cut", STATE, () -> cabinet.cut(0));
        c.refused(cabinet, "the 25th cut, of no key", INDEX, () -> cabinet.cut(2));
        cabinet.replace(0);
        c.refused(cabinet, "the 25th cut when copies are void", STATE, () -> cabinet.cut(0));
    }

    private static void lend(Checks c) {
        KeyCabinet cabinet = withCopies();
        c.same("lend(0, 0, 1)", cabinet.lend(0, 0, 1), 1);
        c.same("lend(1, 7, 99)", cabinet.lend(1, 7, 99), 99);
        cabinet.pass(10);
        c.same("lend(2, 3, 5) on day 10", cabinet.lend(2, 3, 5), 15);
        c.same("copy(2, 1)", cabinet.copy(2, 1), 1);
        c.same("copy(2, 2)", cabinet.copy(2, 2), 3);
        c.same("copy(2, 3)", cabinet.copy(2, 3), 15);
        c.same("copy(2, 4)", cabinet.copy(2, 4), 1);
    }

    private static void lendRefuses(Checks c) {
        KeyCabinet cabinet = withVoid();
        c.refused(cabinet, "lend(4, 0, 1)", INDEX, () -> cabinet.lend(4, 0, 1));
        c.refused(cabinet, "lend(-1, 0, 1)", INDEX, () -> cabinet.lend(-1, 0, 1));
        c.refused(cabinet, "lend(24, 0, 0)", INDEX, () -> cabinet.lend(24, 0, 0));
        c.refused(cabinet, "lend(0, 8, 0)", INDEX, () -> cabinet.lend(0, 8, 0));
        c.refused(cabinet, "lend(0, -1, 1)", INDEX, () -> cabinet.lend(0, -1, 1));
        c.refused(cabinet, "lend(0, 0, 0)", BAD, () -> cabinet.lend(0, 0, 0));
        c.refused(cabinet, "lend(0, 0, 100)", BAD, () -> cabinet.lend(0, 0, 100));
        c.refused(cabinet, "lend(0, 0, MIN)", BAD, () -> cabinet.lend(0, 0, Integer.MIN_VALUE));
        cabinet.lend(0, 0, 1);
        c.refused(cabinet, "lend of a lent one", STATE, () -> cabinet.lend(0, 1, 1));
        c.refused(cabinet, "lend of a lent one for 0 days", BAD, () -> cabinet.lend(0, 1, 0));
        cabinet.lose(1);
        c.refused(cabinet, "lend of a lost one", STATE, () -> cabinet.lend(1, 1, 1));
        c.refused(cabinet, "lend of a void one", STATE, () -> cabinet.lend(3, 1, 1));
    }

    private static void lendLimit(Checks c) {
        KeyCabinet cabinet = withCopies();
        for (int time = 0; time < 9; time++) {
            c.same("copy(0, 4)", cabinet.copy(0, 4), time);
            c.same("lend", cabinet.lend(0, 0, 1), 1);
            cabinet.giveBack(0);
        }
        c.refused(cabinet, "the 10th lend", STATE, () -> cabinet.lend(0, 0, 1));
        c.refused(cabinet, "the 10th lend for no days", BAD, () -> cabinet.lend(0, 0, 0));
        c.same("lend(2, 0, 1)", cabinet.lend(2, 0, 1), 1);
        cabinet.lose(0);
        cabinet.find(0);
        c.refused(cabinet, "the 10th lend of a found one", STATE, () -> cabinet.lend(0, 0, 1));
    }

    private static void giveBack(Checks c) {
        KeyCabinet cabinet = withVoid();
        cabinet.lend(0, 4, 2);
        cabinet.lend(1, 4, 3);
        cabinet.lend(2, 4, 9);
        cabinet.pass(3);
        c.same("giveBack(0), late", cabinet.giveBack(0), 1);
        c.same("giveBack(1), on the day", cabinet.giveBack(1), 0);
        c.same("giveBack(2), early", cabinet.giveBack(2), 0);
        c.same("copy(0, 1)", cabinet.copy(0, 1), 0);
        c.same("copy(0, 2)", cabinet.copy(0, 2), -1);
        c.same("copy(0, 3)", cabinet.copy(0, 3), -1);
        c.same("copy(0, 4)", cabinet.copy(0, 4), 1);
        c.refused(cabinet, "giveBack(0) again", STATE, () -> cabinet.giveBack(0));
        cabinet.lose(1);
        c.refused(cabinet, "giveBack of a lost one", STATE, () -> cabinet.giveBack(1));
        c.refused(cabinet, "giveBack of a void one", STATE, () -> cabinet.giveBack(3));
        c.refused(cabinet, "giveBack(4)", INDEX, () -> cabinet.giveBack(4));
        c.refused(cabinet, "giveBack(-1)", INDEX, () -> cabinet.giveBack(-1));
    }

    private static void lose(Checks c) {
        KeyCabinet cabinet = withVoid();
        cabinet.addDoor(0b11);
        c.same("lose(0) from the cabinet", cabinet.lose(0), 0b101);
        cabinet.lend(1, 6, 9);
        c.same("lose(1) that is lent", cabinet.lose(1), 0b110);
        c.same("copy(1, 1)", cabinet.copy(1, 1), 2);
        c.same("copy(1, 2)", cabinet.copy(1, 2), -1);
        c.same("copy(1, 3)", cabinet.copy(1, 3), -1);
        c.same("copy(1, 4)", cabinet.copy(1, 4), 1);
        c.same("reach(6)", cabinet.reach(6), 0);
        c.refused(cabinet, "lose(1) again", STATE, () -> cabinet.lose(1));
        c.refused(cabinet, "lose of a void one", STATE, () -> cabinet.lose(3));
        c.refused(cabinet, "lose(4)", INDEX, () -> cabinet.lose(4));
        c.refused(cabinet, "lose(-1)", INDEX, () -> cabinet.lose(-1));
    }

    private static void find(Checks c) {
        KeyCabinet cabinet = withVoid();
        cabinet.lose(0);
        cabinet.lose(1);
        cabinet.lose(2);
        c.same("find(0), while another of its key is lost", cabinet.find(0), 0b11);
        c.same("find(2)", cabinet.find(2), 0b10);
        c.same("find(1)", cabinet.find(1), 0);
        c.same("copy(1, 1)", cabinet.copy(1, 1), 0);
        c.same("lend of a found one", cabinet.lend(1, 0, 1), 1);
        c.refused(cabinet, "find of one in the cabinet", STATE, () -> cabinet.find(0));
        c.refused(cabinet, "find of a lent one", STATE, () -> cabinet.find(1));
        c.refused(cabinet, "find of a void one", STATE, () -> cabinet.find(3));
        c.refused(cabinet, "find(4)", INDEX, () -> cabinet.find(4));
        c.refused(cabinet, "find(-1)", INDEX, () -> cabinet.find(-1));
    }

    private static void pass(Checks c) {
        KeyCabinet cabinet = new KeyCabinet();
        c.same("pass(1)", cabinet.pass(1), 1);
        c.same("pass(99)", cabinet.pass(99), 100);
        c.refused(cabinet, "pass(0)", BAD, () -> cabinet.pass(0));
        c.refused(cabinet, "pass(100)", BAD, () -> cabinet.pass(100));
        c.refused(cabinet, "pass(-1)", BAD, () -> cabinet.pass(-1));
        c.refused(cabinet, "pass(MAX)", BAD, () -> cabinet.pass(Integer.MAX_VALUE));
    }

    private static void passLimit(Checks c) {
        KeyCabinet cabinet = Houses.withKeys("00000");
        cabinet.cut(0);
        for (int n = 0; n < 100; n++) {
            cabinet.pass(99);
        }
        c.same("pass(98)", cabinet.pass(98), 9998);
        c.refused(cabinet, "pass(2) on day 9998", STATE, () -> cabinet.pass(2));
        c.refused(cabinet, "pass(100) on day 9998", BAD, () -> cabinet.pass(100));
        c.same("pass(1)", cabinet.pass(1), 9999);
        c.refused(cabinet, "pass(1) on day 9999", STATE, () -> cabinet.pass(1));
        c.same("lend(0, 0, 99) on day 9999", cabinet.lend(0, 0, 99), 10098);
        c.same("holderAt(0, 9999)", cabinet.holderAt(0, 9999), 0);
        c.same("holderAt(0, 9998)", cabinet.holderAt(0, 9998), -1);
        c.same("giveBack(0)", cabinet.giveBack(0), 0);
    }

    private static void today(Checks c) {
        KeyCabinet cabinet = new KeyCabinet();
        c.same("today()", cabinet.today(), 0);
        cabinet.pass(42);
        cabinet.pass(8);
        c.same("today() later", cabinet.today(), 50);
    }

    private static void copyCount(Checks c) {
        KeyCabinet cabinet = withCopies();
        c.same("copyCount()", cabinet.copyCount(), 3);
        cabinet.lose(0);
        cabinet.replace(0);
        c.same("copyCount() with lost and void ones", cabinet.copyCount(), 3);
        cabinet.cut(1);
        c.same("copyCount() with one more", cabinet.copyCount(), 4);
    }

    private static void copy(Checks c) {
        KeyCabinet cabinet = withCopies();
        int[] fresh = {1, 0, -1, -1, 0};
        for (int what = 0; what < 5; what++) {
            c.same("copy(1, " + what + ")", cabinet.copy(1, what), fresh[what]);
        }
        cabinet.pass(4);
        cabinet.lend(1, 0, 2);
        int[] lent = {1, 1, 0, 6, 1};
        for (int what = 0; what < 5; what++) {
            c.same("copy(1, " + what + ") when lent", cabinet.copy(1, what), lent[what]);
        }
        c.refused(cabinet, "copy(1, 5)", INDEX, () -> cabinet.copy(1, 5));
        c.refused(cabinet, "copy(1, -1)", INDEX, () -> cabinet.copy(1, -1));
        c.refused(cabinet, "copy(3, 0)", INDEX, () -> cabinet.copy(3, 0));
        c.refused(cabinet, "copy(-1, 0)", INDEX, () -> cabinet.copy(-1, 0));
    }
}
