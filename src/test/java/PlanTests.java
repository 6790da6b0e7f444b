/** Promises 1 to 15: keys, doors and pins. */
final class PlanTests {
    private static final Class<IllegalArgumentException> BAD = IllegalArgumentException.class;
    private static final Class<IllegalStateException> STATE = IllegalStateException.class;
    private static final Class<IndexOutOfBoundsException> INDEX = IndexOutOfBoundsException.class;

    private PlanTests() {
    }

    static void addTo(Checks checks) {
        checks.test("promise 1: a new object", PlanTests::newObject);
        checks.test("promise 2: addKey", PlanTests::addKey);
        checks.test("promise 2: addKey takes 8 keys", PlanTests::addKeyLimit);
        checks.test("promise 3: addDoor", PlanTests::addDoor);
        checks.test("promise 3: addDoor takes 8 doors", PlanTests::addDoorLimit);
        checks.test("promise 4: setRights", PlanTests::setRights);
        checks.test("promise 5: keyCount", PlanTests::keyCount);
        checks.test("promise 6: doorCount", PlanTests::doorCount);
        checks.test("promise 7: code", PlanTests::code);
        checks.test("promise 8: pins", PlanTests::pins);
        checks.test("promise 9: opens", PlanTests::opens);
        checks.test("promise 10: openers", PlanTests::openers);
        checks.test("promise 11: doors", PlanTests::doors);
        checks.test("promise 12: strays", PlanTests::strays);
        checks.test("promise 13: codes", PlanTests::codes);
        checks.test("promise 14: isAbove", PlanTests::isAbove);
        checks.test("promise 15: work", PlanTests::work);
    }

    private static void newObject(Checks c) {
        KeyCabinet cabinet = new KeyCabinet();
        c.same("keyCount()", cabinet.keyCount(), 0);
        c.same("doorCount()", cabinet.doorCount(), 0);
        c.same("copyCount()", cabinet.copyCount(), 0);
        c.same("today()", cabinet.today(), 0);
        c.same("work()", cabinet.work(), 0);
        c.same("strays()", cabinet.strays(), 0);
        c.same("overdue()", cabinet.overdue(), 0);
        c.same("risk()", cabinet.risk(), 0);
        c.same("reach(7)", cabinet.reach(7), 0);
        new KeyCabinet().addKey(5);
        c.same("keyCount() after another object got a key", cabinet.keyCount(), 0);
    }

    private static void addKey(Checks c) {
        KeyCabinet cabinet = new KeyCabinet();
        c.same("addKey(0)", cabinet.addKey(0), 0);
        c.same("addKey(1023)", cabinet.addKey(1023), 1);
        c.same("code(0)", cabinet.code(0), 0);
        c.same("code(1)", cabinet.code(1), 1023);
        c.refused(cabinet, "addKey(-1)", BAD, () -> cabinet.addKey(-1));
        c.refused(cabinet, "addKey(1024)", BAD, () -> cabinet.addKey(1024));
        c.refused(cabinet, "addKey(MIN)", BAD, () -> cabinet.addKey(Integer.MIN_VALUE));
        c.refused(cabinet, "addKey(0) again", STATE, () -> cabinet.addKey(0));
        c.refused(cabinet, "addKey(1023) again", STATE, () -> cabinet.addKey(1023));
        c.same("addKey(512)", cabinet.addKey(512), 2);
        int left = cabinet.replace(0);
        c.same("replace(0)", left, 1);
        c.refused(cabinet, "addKey of the replaced key's new code", STATE, () -> cabinet.addKey(1));
        c.same("addKey of the code that was left", cabinet.addKey(0), 3);
    }

    private static void addKeyLimit(Checks c) {
        KeyCabinet cabinet = new KeyCabinet();
        for (int key = 0; key < 8; key++) {
            c.same("addKey", cabinet.addKey(100 + key), key);
        }
        c.refused(cabinet, "the 9th addKey", STATE, () -> cabinet.addKey(7));
        c.refused(cabinet, "the 9th addKey with no code", BAD, () -> cabinet.addKey(1024));
        c.same("keyCount()", cabinet.keyCount(), 8);
    }

    private static void addDoor(Checks c) {
        KeyCabinet cabinet = Houses.withKeys("01230", "33333");
        c.same("addDoor(0)", cabinet.addDoor(0), 0);
        c.same("addDoor(3)", cabinet.addDoor(3), 1);
        c.same("addDoor(2)", cabinet.addDoor(2), 2);
        c.same("openers(1)", cabinet.openers(1), 3);
        c.same("openers(2)", cabinet.openers(2), 2);
        c.refused(cabinet, "addDoor(4)", BAD, () -> cabinet.addDoor(4));
        c.refused(cabinet, "addDoor(7)", BAD, () -> cabinet.addDoor(7));
        c.refused(cabinet, "addDoor(-1)", BAD, () -> cabinet.addDoor(-1));
        c.refused(cabinet, "addDoor(MIN)", BAD, () -> cabinet.addDoor(Integer.MIN_VALUE));
        KeyCabinet keyless = new KeyCabinet();
        c.refused(keyless, "addDoor(1) without keys", BAD, () -> keyless.addDoor(1));
        c.same("addDoor(0) without keys", keyless.addDoor(0), 0);
    }

    private static void addDoorLimit(Checks c) {
        KeyCabinet cabinet = new KeyCabinet();
        for (int key = 0; key < 8; key++) {
            cabinet.addKey(key);
        }
        for (int door = 0; door < 8; door++) {
            c.same("addDoor(255)", cabinet.addDoor(255), door);
        }
        c.refused(cabinet, "the 9th addDoor", STATE, () -> cabinet.addDoor(1));
        c.refused(cabinet, "the 9th addDoor with no set", BAD, () -> cabinet.addDoor(256));
        c.same("doorCount()", cabinet.doorCount(), 8);
    }

    private static void setRights(Checks c) {
        KeyCabinet cabinet = Houses.withKeys("00000", "11111");
        cabinet.addDoor(1);
        c.same("setRights(0, 3)", cabinet.setRights(0, 3), 1);
        c.same("pins(0, 4)", cabinet.pins(0, 4), 3);
        c.same("setRights(0, 2)", cabinet.setRights(0, 2), 3);
        c.same("pins(0, 4)", cabinet.pins(0, 4), 2);
        c.same("openers(0)", cabinet.openers(0), 2);
        c.same("setRights(0, 0)", cabinet.setRights(0, 0), 2);
        c.same("setRights(0, 0) again", cabinet.setRights(0, 0), 0);
        c.refused(cabinet, "setRights(1, 1)", INDEX, () -> cabinet.setRights(1, 1));
        c.refused(cabinet, "setRights(-1, 1)", INDEX, () -> cabinet.setRights(-1, 1));
        c.refused(cabinet, "setRights(8, 1)", INDEX, () -> cabinet.setRights(8, 1));
        c.refused(cabinet, "setRights(1, 4)", INDEX, () -> cabinet.setRights(1, 4));
        c.refused(cabinet, "setRights(0, 4)", BAD, () -> cabinet.setRights(0, 4));
        c.refused(cabinet, "setRights(0, -1)", BAD, () -> cabinet.setRights(0, -1));
    }

    private static void keyCount(Checks c) {
        KeyCabinet cabinet = Houses.withKeys("00000", "11111");
        c.same("keyCount()", cabinet.keyCount(), 2);
        cabinet.addDoor(0);
        c.same("keyCount() after addDoor", cabinet.keyCount(), 2);
        cabinet.addKey(3);
        c.same("keyCount() after addKey", cabinet.keyCount(), 3);
    }

    private static void doorCount(Checks c) {
        KeyCabinet cabinet = Houses.withKeys("00000", "11111", "22222");
        c.same("doorCount()", cabinet.doorCount(), 0);
        cabinet.addDoor(0);
        cabinet.addDoor(5);
        c.same("doorCount() after two addDoor", cabinet.doorCount(), 2);
    }

    private static void code(Checks c) {
        KeyCabinet cabinet = Houses.withKeys("32101");
        c.same("code(0)", cabinet.code(0), 913);
        c.refused(cabinet, "code(1)", INDEX, () -> cabinet.code(1));
        c.refused(cabinet, "code(-1)", INDEX, () -> cabinet.code(-1));
        c.refused(cabinet, "code(8)", INDEX, () -> cabinet.code(8));
    }

    private static void pins(Checks c) {
        KeyCabinet cabinet = Houses.withKeys("01232", "03132", "30001");
        cabinet.addDoor(0b011);
        cabinet.addDoor(0);
        int[] due = {1, 2 + 8, 4 + 2, 8, 4};
        for (int position = 0; position < 5; position++) {
            c.same("pins(0, " + position + ")", cabinet.pins(0, position), due[position]);
            c.same("pins(1, " + position + ")", cabinet.pins(1, position), 0);
        }
        c.refused(cabinet, "pins(2, 0)", INDEX, () -> cabinet.pins(2, 0));
        c.refused(cabinet, "pins(-1, 0)", INDEX, () -> cabinet.pins(-1, 0));
        c.refused(cabinet, "pins(0, 5)", INDEX, () -> cabinet.pins(0, 5));
        c.refused(cabinet, "pins(0, -1)", INDEX, () -> cabinet.pins(0, -1));
    }

    private static void opens(Checks c) {
        KeyCabinet cabinet = Houses.withStray();
        c.same("opens(0, 0)", cabinet.opens(0, 0), true);
        c.same("opens(2, 0), a stray", cabinet.opens(2, 0), true);
        c.same("opens(0, 1)", cabinet.opens(0, 1), false);
        c.same("opens(2, 1)", cabinet.opens(2, 1), true);
        c.same("opens(0, 2), a door without pins", cabinet.opens(0, 2), false);
        c.refused(cabinet, "opens(3, 0)", INDEX, () -> cabinet.opens(3, 0));
        c.refused(cabinet, "opens(-1, 0)", INDEX, () -> cabinet.opens(-1, 0));
        c.refused(cabinet, "opens(0, 3)", INDEX, () -> cabinet.opens(0, 3));
        c.refused(cabinet, "opens(0, -1)", INDEX, () -> cabinet.opens(0, -1));
    }

    private static void openers(Checks c) {
        KeyCabinet cabinet = Houses.withStray();
        c.same("openers(0)", cabinet.openers(0), 7);
        c.same("openers(1)", cabinet.openers(1), 4);
        c.same("openers(2)", cabinet.openers(2), 0);
        cabinet.addKey(Houses.number("00000"));
        c.same("openers(0) after a key came that strays", cabinet.openers(0), 15);
        c.refused(cabinet, "openers(3)", INDEX, () -> cabinet.openers(3));
        c.refused(cabinet, "openers(-1)", INDEX, () -> cabinet.openers(-1));
    }

    private static void doors(Checks c) {
        KeyCabinet cabinet = Houses.withStray();
        c.same("doors(0)", cabinet.doors(0), 1);
        c.same("doors(1)", cabinet.doors(1), 1);
        c.same("doors(2)", cabinet.doors(2), 3);
        c.refused(cabinet, "doors(3)", INDEX, () -> cabinet.doors(3));
        c.refused(cabinet, "doors(-1)", INDEX, () -> cabinet.doors(-1));
    }

    private static void strays(Checks c) {
        KeyCabinet cabinet = Houses.withStray();
        c.same("strays()", cabinet.strays(), 1);
        cabinet.addDoor(0b011);
        c.same("strays() with another such door", cabinet.strays(), 2);
        cabinet.addKey(Houses.number("00000"));
        c.same("strays() with another such key", cabinet.strays(), 4);
        cabinet.setRights(0, 0b111);
        c.same("strays() when one got the right", cabinet.strays(), 3);
    }

    private static void codes(Checks c) {
        KeyCabinet cabinet = Houses.withKeys("01232", "03132", "30001");
        cabinet.addDoor(0b011);
        cabinet.addDoor(0b001);
        cabinet.addDoor(0);
        cabinet.addDoor(0b111);
        c.same("codes(0)", cabinet.codes(0), 4);
        c.same("codes(1)", cabinet.codes(1), 1);
        c.same("codes(2)", cabinet.codes(2), 0);
        c.same("codes(3)", cabinet.codes(3), 2 * 3 * 3 * 2 * 2);
        c.refused(cabinet, "codes(4)", INDEX, () -> cabinet.codes(4));
        c.refused(cabinet, "codes(-1)", INDEX, () -> cabinet.codes(-1));
        KeyCabinet all = Houses.withKeys("00000", "11111", "22222", "33333");
        all.addDoor(15);
        c.same("codes of a door with all pins", all.codes(0), 1024);
    }

    private static void isAbove(Checks c) {
        KeyCabinet cabinet = Houses.withStray();
        c.same("isAbove(2, 0)", cabinet.isAbove(2, 0), true);
        c.same("isAbove(0, 2)", cabinet.isAbove(0, 2), false);
        c.same("isAbove(0, 1), the same doors", cabinet.isAbove(0, 1), false);
        c.same("isAbove(2, 2)", cabinet.isAbove(2, 2), false);
        cabinet.addKey(Houses.number("33333"));
        c.same("isAbove(0, 3), which opens nothing", cabinet.isAbove(0, 3), true);
        cabinet.setRights(2, 0b1000);
        c.same("isAbove(2, 3), other doors", cabinet.isAbove(2, 3), false);
        c.refused(cabinet, "isAbove(4, 0)", INDEX, () -> cabinet.isAbove(4, 0));
        c.refused(cabinet, "isAbove(0, 4)", INDEX, () -> cabinet.isAbove(0, 4));
        c.refused(cabinet, "isAbove(-1, 0)", INDEX, () -> cabinet.isAbove(-1, 0));
        c.refused(cabinet, "isAbove(0, -1)", INDEX, () -> cabinet.isAbove(0, -1));
    }

    private static void work(Checks c) {
        KeyCabinet cabinet = Houses.withKeys("00000", "00011");
        cabinet.addDoor(0);
        c.same("work() after a door without rights", cabinet.work(), 0);
        cabinet.addDoor(0b11);
        c.same("work() after a door with 7 pins", cabinet.work(), 7);
        cabinet.setRights(1, 0b01);
        c.same("work() after 2 pins went out", cabinet.work(), 9);
        cabinet.setRights(1, 0b10);
        c.same("work() after 2 went out and 2 came in", cabinet.work(), 13);
        cabinet.setRights(1, 0b10);
        c.same("work() after the same rights", cabinet.work(), 13);
        cabinet.addKey(Houses.number("33333"));
        c.same("work() after a key", cabinet.work(), 13);
        c.same("replace(1)", cabinet.replace(1), Houses.number("00001"));
        c.same("work() after a digit changed", cabinet.work(), 15);
    }
}
