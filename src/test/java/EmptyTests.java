/** What there is when there are no keys, no doors, no copies, or rights that contain no key. */
final class EmptyTests {
    private static final Class<IllegalArgumentException> BAD = IllegalArgumentException.class;
    private static final Class<IndexOutOfBoundsException> INDEX = IndexOutOfBoundsException.class;

    private EmptyTests() {
    }

    static void addTo(Checks checks) {
        checks.test("'without keys, doors and copies, on day 0'", EmptyTests::newObject);
        checks.test("a new object has no key, door or copy to ask for", EmptyTests::nothingThere);
        checks.test("each object is by itself", EmptyTests::twoObjects);
        checks.test("doors without keys", EmptyTests::doorsAlone);
        checks.test("keys without doors", EmptyTests::keysAlone);
        checks.test("keys and doors without copies", EmptyTests::noCopies);
        checks.test("rights that contain no key (perhaps none)", EmptyTests::noRights);
        checks.test("rights that contain no key any more", EmptyTests::rightsTaken);
        checks.test("'0 if there are none' in exposure", EmptyTests::exposure);
    }

    private static void newObject(Checks c) {
        KeyCabinet cabinet = new KeyCabinet();
        c.same("keyCount()", cabinet.keyCount(), 0);
        c.same("doorCount()", cabinet.doorCount(), 0);
        c.same("copyCount()", cabinet.copyCount(), 0);
        c.same("today()", cabinet.today(), 0);
        c.same("work()", cabinet.work(), 0);
        c.same("strays()", cabinet.strays(), 0);
        c.same("overdue()", cabinet.overdue(), 0);
        c.same("risk()", cabinet.risk(), 0);
        c.same("exposure()", cabinet.exposure(), 0.0);
        for (int person = 0; person < 8; person++) {
            c.same("reach", cabinet.reach(person), 0);
            c.same("suggest", cabinet.suggest(person, 0), 0);
        }
        // The numbers of keys and doors, the work, the day, the number of copies: five times 0.
        c.same("digest()", cabinet.digest(), 173L * 31 * 31 * 31 * 31 * 31);
    }

    private static void nothingThere(Checks c) {
        KeyCabinet cabinet = new KeyCabinet();
        c.refused(cabinet, "addDoor(1)", BAD, () -> cabinet.addDoor(1));
        c.refused(cabinet, "setRights(0, 0)", INDEX, () -> cabinet.setRights(0, 0));
        c.refused(cabinet, "code(0)", INDEX, () -> cabinet.code(0));
        c.refused(cabinet, "pins(0, 0)", INDEX, () -> cabinet.pins(0, 0));
        c.refused(cabinet, "opens(0, 0)", INDEX, () -> cabinet.opens(0, 0));
        c.refused(cabinet, "openers(0)", INDEX, () -> cabinet.openers(0));
        c.refused(cabinet, "doors(0)", INDEX, () -> cabinet.doors(0));
        c.refused(cabinet, "codes(0)", INDEX, () -> cabinet.codes(0));
        c.refused(cabinet, "isAbove(0, 0)", INDEX, () -> cabinet.isAbove(0, 0));
        c.refused(cabinet, "replace(0)", INDEX, () -> cabinet.replace(0));
        c.refused(cabinet, "cut(0)", INDEX, () -> cabinet.cut(0));
        c.refused(cabinet, "lend(0, 0, 1)", INDEX, () -> cabinet.lend(0, 0, 1));
        c.refused(cabinet, "giveBack(0)", INDEX, () -> cabinet.giveBack(0));
        c.refused(cabinet, "lose(0)", INDEX, () -> cabinet.lose(0));
        c.refused(cabinet, "find(0)", INDEX, () -> cabinet.find(0));
        c.refused(cabinet, "copy(0, 0)", INDEX, () -> cabinet.copy(0, 0));
        c.refused(cabinet, "holderAt(0, 0)", INDEX, () -> cabinet.holderAt(0, 0));
        c.refused(cabinet, "suggest(0, 1)", BAD, () -> cabinet.suggest(0, 1));
    }

    private static void twoObjects(Checks c) {
        KeyCabinet empty = new KeyCabinet();
        KeyCabinet full = Houses.full();
        long before = full.digest();
        KeyCabinet later = new KeyCabinet();
        c.same("digest() of one made before", empty.digest(), new KeyCabinet().digest());
        c.same("digest() of one made later", later.digest(), new KeyCabinet().digest());
        later.addKey(1000);
        later.addDoor(1);
        later.cut(0);
        later.lend(0, 3, 9);
        c.same("copyCount() of one made before", empty.copyCount(), 0);
        c.same("digest() of the full one", full.digest(), before);
        c.same("code(0) of the full one", full.code(0), 0);
    }

    private static void doorsAlone(Checks c) {
        KeyCabinet cabinet = new KeyCabinet();
        for (int door = 0; door < 8; door++) {
            c.same("addDoor(0)", cabinet.addDoor(0), door);
        }
        c.same("work()", cabinet.work(), 0);
        c.same("strays()", cabinet.strays(), 0);
        c.same("openers(7)", cabinet.openers(7), 0);
        c.same("codes(7)", cabinet.codes(7), 0);
        c.same("pins(7, 4)", cabinet.pins(7, 4), 0);
        c.same("setRights(7, 0)", cabinet.setRights(7, 0), 0);
        c.refused(cabinet, "setRights(7, 1)", BAD, () -> cabinet.setRights(7, 1));
        c.same("suggest(0, 0)", cabinet.suggest(0, 0), 0);
        c.same("suggest(0, 128)", cabinet.suggest(0, 128), -1);
        c.same("exposure()", cabinet.exposure(), 0.0);
        c.same("addKey(0)", cabinet.addKey(0), 0);
        c.same("doors(0)", cabinet.doors(0), 0);
    }

    private static void keysAlone(Checks c) {
        KeyCabinet cabinet = Houses.sized(3, 0, 3);
        c.same("doors(2)", cabinet.doors(2), 0);
        c.same("isAbove(0, 1)", cabinet.isAbove(0, 1), false);
        c.same("strays()", cabinet.strays(), 0);
        c.same("lend(0, 0, 1)", cabinet.lend(0, 0, 1), 1);
        c.same("lose(1)", cabinet.lose(1), 0);
        c.same("reach(0)", cabinet.reach(0), 0);
        c.same("risk()", cabinet.risk(), 0);
        c.same("find(1)", cabinet.find(1), 0);
        c.same("suggest(1, 0)", cabinet.suggest(1, 0), 0);
        c.refused(cabinet, "suggest(1, 1)", BAD, () -> cabinet.suggest(1, 1));
        c.same("replace(2)", cabinet.replace(2), 3);
        c.same("work()", cabinet.work(), 0);
    }

    private static void noCopies(Checks c) {
        KeyCabinet cabinet = Houses.sized(3, 3, 0);
        c.same("copyCount()", cabinet.copyCount(), 0);
        c.same("overdue()", cabinet.overdue(), 0);
        c.same("risk()", cabinet.risk(), 0);
        c.same("exposure()", cabinet.exposure(), 0.0);
        c.same("reach(0)", cabinet.reach(0), 0);
        c.same("suggest(0, 0)", cabinet.suggest(0, 0), 0);
        for (int doors = 1; doors < 8; doors++) {
            c.same("suggest(0, " + doors + ")", cabinet.suggest(0, doors), -1);
        }
        c.same("replace(0)", cabinet.replace(0), 3);
        c.same("copyCount() after replace(0)", cabinet.copyCount(), 0);
    }

    /** Each of the five digits would have to be among no pins at all. */
    private static void noRights(Checks c) {
        KeyCabinet cabinet = Houses.withKeys("00000", "33333", "01230");
        c.same("addDoor(0)", cabinet.addDoor(0), 0);
        c.same("work()", cabinet.work(), 0);
        c.same("openers(0)", cabinet.openers(0), 0);
        c.same("codes(0)", cabinet.codes(0), 0);
        c.same("strays()", cabinet.strays(), 0);
        for (int key = 0; key < 3; key++) {
            c.same("opens(" + key + ", 0)", cabinet.opens(key, 0), false);
            c.same("doors(" + key + ")", cabinet.doors(key), 0);
        }
        for (int position = 0; position < 5; position++) {
            c.same("pins(0, " + position + ")", cabinet.pins(0, position), 0);
        }
        cabinet.cut(0);
        c.same("suggest(0, 1)", cabinet.suggest(0, 1), -1);
        c.same("lose(0)", cabinet.lose(0), 0);
        c.same("exposure()", cabinet.exposure(), 0.0);
    }

    private static void rightsTaken(Checks c) {
        KeyCabinet cabinet = Houses.sized(2, 1, 2);
        cabinet.lend(0, 1, 1);
        c.same("reach(1)", cabinet.reach(1), 1);
        c.same("setRights(0, 0)", cabinet.setRights(0, 0), 1);
        c.same("work()", cabinet.work(), 10);
        c.same("reach(1) then", cabinet.reach(1), 0);
        c.same("codes(0)", cabinet.codes(0), 0);
        c.same("setRights(0, 0) again", cabinet.setRights(0, 0), 0);
        c.same("work() then", cabinet.work(), 10);
        c.same("setRights(0, 3)", cabinet.setRights(0, 3), 0);
        c.same("work() after 6 pins came in", cabinet.work(), 16);
    }

    private static void exposure(Checks c) {
        c.same("of a new object", new KeyCabinet().exposure(), 0.0);
        KeyCabinet cabinet = Houses.sized(1, 0, 2);
        cabinet.lend(0, 0, 1);
        cabinet.lose(1);
        c.same("with a lent and a lost copy", cabinet.exposure(), 0.0);
        cabinet.addDoor(1);
        c.same("with a door", cabinet.exposure(), 1.0);
        cabinet.addDoor(0);
        c.same("with a door that nothing opens too", cabinet.exposure(), 0.5);
    }
}
