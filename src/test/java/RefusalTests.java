/**
 * 'A method that throws an exception changes nothing.': of each method, for each of its exceptions,
 * all that the others tell before and after. The houses are told at Houses.
 */
final class RefusalTests {
    private static final Class<IllegalArgumentException> BAD = IllegalArgumentException.class;
    private static final Class<IllegalStateException> STATE = IllegalStateException.class;
    private static final Class<IndexOutOfBoundsException> INDEX = IndexOutOfBoundsException.class;
    private static final int MIN = Integer.MIN_VALUE;
    private static final int MAX = Integer.MAX_VALUE;

    private RefusalTests() {
    }

    static void addTo(Checks checks) {
        checks.test("promise 2: addKey, refused, changes nothing", RefusalTests::addKey);
        checks.test("promise 3: addDoor, refused, changes nothing", RefusalTests::addDoor);
        checks.test("promise 4: setRights, refused, changes nothing", RefusalTests::setRights);
        checks.test("promises 7 to 14: refused, change nothing", RefusalTests::askPlan);
        checks.test("promise 16: replace, refused, changes nothing", RefusalTests::replace);
        checks.test("promise 17: cut, refused, changes nothing", RefusalTests::cut);
        checks.test("promise 18: lend, refused, changes nothing", RefusalTests::lend);
        checks.test("promise 19: giveBack, refused, changes nothing", RefusalTests::giveBack);
        checks.test("promise 20: lose, refused, changes nothing", RefusalTests::lose);
        checks.test("promise 21: find, refused, changes nothing", RefusalTests::find);
        checks.test("promise 22: pass, refused, changes nothing", RefusalTests::pass);
        checks.test("promises 25 and 27: refused, change nothing", RefusalTests::askCopies);
        checks.test("promises 28 and 30: refused, change nothing", RefusalTests::askPersons);
        checks.test("a new object, refusing all, stays as it is", RefusalTests::empty);
        checks.test("what is asked changes nothing", RefusalTests::asked);
    }

    private static void addKey(Checks c) {
        Unchanged lived = new Unchanged(c, Houses::lived);
        lived.refused("addKey(-1)", BAD, x -> x.addKey(-1));
        lived.refused("addKey(1024)", BAD, x -> x.addKey(1024));
        lived.refused("addKey(MIN)", BAD, x -> x.addKey(MIN));
        lived.refused("addKey of key 0's code", STATE, x -> x.addKey(Houses.number("00100")));
        lived.refused("addKey of key 2's code", STATE, x -> x.addKey(Houses.number("00110")));
        Unchanged full = new Unchanged(c, Houses::full);
        full.refused("a 9th addKey", STATE, x -> x.addKey(500));
        full.refused("a 9th addKey, its code taken", STATE, x -> x.addKey(7));
        full.refused("a 9th addKey, its code bad", BAD, x -> x.addKey(1024));
    }

    private static void addDoor(Checks c) {
        Unchanged lived = new Unchanged(c, Houses::lived);
        lived.refused("addDoor(16)", BAD, x -> x.addDoor(16));
        lived.refused("addDoor(17)", BAD, x -> x.addDoor(17));
        lived.refused("addDoor(-1)", BAD, x -> x.addDoor(-1));
        Unchanged full = new Unchanged(c, Houses::full);
        full.refused("a 9th addDoor", STATE, x -> x.addDoor(255));
        full.refused("a 9th addDoor, for no key", STATE, x -> x.addDoor(0));
        full.refused("a 9th addDoor, its rights bad", BAD, x -> x.addDoor(256));
    }

    private static void setRights(Checks c) {
        Unchanged lived = new Unchanged(c, Houses::lived);
        lived.refused("setRights(4, 1)", INDEX, x -> x.setRights(4, 1));
        lived.refused("setRights(-1, 1)", INDEX, x -> x.setRights(-1, 1));
        lived.refused("setRights(0, 16)", BAD, x -> x.setRights(0, 16));
        lived.refused("setRights(1, 31)", BAD, x -> x.setRights(1, 31));
        lived.refused("setRights(3, -1)", BAD, x -> x.setRights(3, -1));
        lived.refused("setRights(4, 16)", INDEX, x -> x.setRights(4, 16));
        Unchanged full = new Unchanged(c, Houses::full);
        full.refused("setRights(8, 1)", INDEX, x -> x.setRights(8, 1));
        full.refused("setRights(7, 256)", BAD, x -> x.setRights(7, 256));
    }

    private static void askPlan(Checks c) {
        Unchanged lived = new Unchanged(c, Houses::lived);
        lived.refused("code(4)", INDEX, x -> x.code(4));
        lived.refused("pins(4, 0)", INDEX, x -> x.pins(4, 0));
        lived.refused("pins(0, 5)", INDEX, x -> x.pins(0, 5));
        lived.refused("opens(4, 0)", INDEX, x -> x.opens(4, 0));
        lived.refused("opens(0, 4)", INDEX, x -> x.opens(0, 4));
        lived.refused("openers(-1)", INDEX, x -> x.openers(-1));
        lived.refused("doors(-1)", INDEX, x -> x.doors(-1));
        lived.refused("codes(4)", INDEX, x -> x.codes(4));
        lived.refused("isAbove(0, 4)", INDEX, x -> x.isAbove(0, 4));
        lived.refused("isAbove(4, 0)", INDEX, x -> x.isAbove(4, 0));
    }

    private static void replace(Checks c) {
        Unchanged lived = new Unchanged(c, Houses::lived);
        lived.refused("replace(4)", INDEX, x -> x.replace(4));
        lived.refused("replace(-1)", INDEX, x -> x.replace(-1));
        lived.by("replace(2) that finds no code", -1, x -> x.replace(2));
        new Unchanged(c, Houses::full).refused("replace(8)", INDEX, x -> x.replace(8));
    }

    private static void cut(Checks c) {
        Unchanged lived = new Unchanged(c, Houses::lived);
        lived.refused("cut(4)", INDEX, x -> x.cut(4));
        lived.refused("cut(-1)", INDEX, x -> x.cut(-1));
        Unchanged full = new Unchanged(c, Houses::full);
        full.refused("a 25th cut", STATE, x -> x.cut(0));
        full.refused("a 25th cut of the last key", STATE, x -> x.cut(7));
        full.refused("a 25th cut of no key", INDEX, x -> x.cut(8));
    }

    private static void lend(Checks c) {
        Unchanged lived = new Unchanged(c, Houses::lived);
        lived.refused("lend(8, 0, 1)", INDEX, x -> x.lend(8, 0, 1));
        lived.refused("lend(-1, 0, 1)", INDEX, x -> x.lend(-1, 0, 1));
        lived.refused("lend(0, 8, 1)", INDEX, x -> x.lend(0, 8, 1));
        lived.refused("lend(6, -1, 1)", INDEX, x -> x.lend(6, -1, 1));
        lived.refused("lend(0, 0, 0)", BAD, x -> x.lend(0, 0, 0));
        lived.refused("lend(6, 7, 100)", BAD, x -> x.lend(6, 7, 100));
        lived.refused("lend of a lent one", STATE, x -> x.lend(1, 0, 1));
        lived.refused("lend of an overdue one", STATE, x -> x.lend(2, 0, 1));
        lived.refused("lend of a lost one", STATE, x -> x.lend(3, 0, 1));
        lived.refused("lend of a void one", STATE, x -> x.lend(4, 0, 1));
        lived.refused("lend for the 10th time", STATE, x -> x.lend(5, 0, 1));
    }

    private static void giveBack(Checks c) {
        Unchanged lived = new Unchanged(c, Houses::lived);
        lived.refused("giveBack(8)", INDEX, x -> x.giveBack(8));
        lived.refused("giveBack(-1)", INDEX, x -> x.giveBack(-1));
        lived.refused("giveBack of one given back", STATE, x -> x.giveBack(0));
        lived.refused("giveBack of a lost one", STATE, x -> x.giveBack(3));
        lived.refused("giveBack of a void one", STATE, x -> x.giveBack(4));
        lived.refused("giveBack of one never lent", STATE, x -> x.giveBack(6));
    }

    private static void lose(Checks c) {
        Unchanged lived = new Unchanged(c, Houses::lived);
        lived.refused("lose(8)", INDEX, x -> x.lose(8));
        lived.refused("lose(-1)", INDEX, x -> x.lose(-1));
        lived.refused("lose of a lost one", STATE, x -> x.lose(3));
        lived.refused("lose of a void one", STATE, x -> x.lose(4));
    }

    private static void find(Checks c) {
        Unchanged lived = new Unchanged(c, Houses::lived);
        lived.refused("find(8)", INDEX, x -> x.find(8));
        lived.refused("find(-1)", INDEX, x -> x.find(-1));
        lived.refused("find of one in the cabinet", STATE, x -> x.find(0));
        lived.refused("find of a lent one", STATE, x -> x.find(1));
        lived.refused("find of a void one", STATE, x -> x.find(4));
    }

    private static void pass(Checks c) {
        Unchanged lived = new Unchanged(c, Houses::lived);
        lived.refused("pass(0)", BAD, x -> x.pass(0));
        lived.refused("pass(100)", BAD, x -> x.pass(100));
        lived.refused("pass(MIN)", BAD, x -> x.pass(MIN));
        lived.refused("pass(MAX)", BAD, x -> x.pass(MAX));
        Unchanged late = new Unchanged(c, () -> Houses.livedTo(9999));
        late.refused("pass(1) on day 9999", STATE, x -> x.pass(1));
        late.refused("pass(99) on day 9999", STATE, x -> x.pass(99));
        late.refused("pass(100) on day 9999", BAD, x -> x.pass(100));
        Unchanged later = new Unchanged(c, () -> Houses.livedTo(9950));
        later.refused("pass(50) on day 9950", STATE, x -> x.pass(50));
        later.refused("pass(99) on day 9950", STATE, x -> x.pass(99));
    }

    private static void askCopies(Checks c) {
        Unchanged lived = new Unchanged(c, Houses::lived);
        lived.refused("copy(8, 0)", INDEX, x -> x.copy(8, 0));
        lived.refused("copy(0, 5)", INDEX, x -> x.copy(0, 5));
        lived.refused("copy(1, -1)", INDEX, x -> x.copy(1, -1));
        lived.refused("holderAt(8, 0)", INDEX, x -> x.holderAt(8, 0));
        lived.refused("holderAt(1, 13)", BAD, x -> x.holderAt(1, 13));
        lived.refused("holderAt(1, -1)", BAD, x -> x.holderAt(1, -1));
    }

    private static void askPersons(Checks c) {
        Unchanged lived = new Unchanged(c, Houses::lived);
        lived.refused("reach(8)", INDEX, x -> x.reach(8));
        lived.refused("reach(-1)", INDEX, x -> x.reach(-1));
        lived.refused("suggest(8, 1)", INDEX, x -> x.suggest(8, 1));
        lived.refused("suggest(-1, 1)", INDEX, x -> x.suggest(-1, 1));
        lived.refused("suggest(0, 16)", BAD, x -> x.suggest(0, 16));
        lived.refused("suggest(0, -1)", BAD, x -> x.suggest(0, -1));
    }

    private static void empty(Checks c) {
        Unchanged empty = new Unchanged(c, KeyCabinet::new);
        empty.refused("addKey(-1)", BAD, x -> x.addKey(-1));
        empty.refused("addDoor(1)", BAD, x -> x.addDoor(1));
        empty.refused("setRights(0, 0)", INDEX, x -> x.setRights(0, 0));
        empty.refused("replace(0)", INDEX, x -> x.replace(0));
        empty.refused("cut(0)", INDEX, x -> x.cut(0));
        empty.refused("lend(0, 0, 1)", INDEX, x -> x.lend(0, 0, 1));
        empty.refused("giveBack(0)", INDEX, x -> x.giveBack(0));
        empty.refused("lose(0)", INDEX, x -> x.lose(0));
        empty.refused("find(0)", INDEX, x -> x.find(0));
        empty.refused("pass(0)", BAD, x -> x.pass(0));
    }

    /** Methods that only tell something: what is asked later goes as if they had not been called. */
    private static void asked(Checks c) {
        Unchanged lived = new Unchanged(c, Houses::lived);
        lived.by("suggest(0, 9)", 0b1000001, x -> x.suggest(0, 9));
        lived.by("holderAt(0, 4)", 4, x -> x.holderAt(0, 4));
        lived.by("overdue()", 0b100, x -> x.overdue());
        lived.by("exposure()", 0.5, x -> x.exposure());
    }
}
