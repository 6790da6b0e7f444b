/** Promise 16: replace. */
final class ReplaceTests {
    private static final Class<IndexOutOfBoundsException> INDEX = IndexOutOfBoundsException.class;

    private ReplaceTests() {
    }

    static void addTo(Checks checks) {
        checks.test("promise 16: replace", ReplaceTests::replace);
        checks.test("promise 16: 'one that no key has'", ReplaceTests::noKeyHas);
        checks.test("promise 16: 'one that no key has', its own with them", ReplaceTests::ownCode);
        checks.test("promise 16: 'its old code opens no door any more'", ReplaceTests::oldCode);
        checks.test("promise 16: 'its old code opens no door', of many", ReplaceTests::oldCodeMany);
        checks.test("promise 16: replace takes the fewest strays", ReplaceTests::replaceStrays);
        checks.test("promise 16: replace counts its own strays", ReplaceTests::replaceOwnStrays);
        checks.test("promise 16: the least number of strays need not be 0",
                ReplaceTests::straysThatStay);
        checks.test("promise 16: the least number of strays, of many", ReplaceTests::manyStrays);
        checks.test("promise 16: replace takes the least work", ReplaceTests::replaceWork);
        checks.test("promise 16: replace adds the work at all doors", ReplaceTests::replaceAllWork);
        checks.test("promise 16: replace puts strays before work", ReplaceTests::replaceOrder);
        checks.test("promise 16: 'then the smallest one'", ReplaceTests::smallest);
        checks.test("promise 16: '-1 if there is none'", ReplaceTests::replaceNone);
        checks.test("promise 16: '-1 if there is none', for each door", ReplaceTests::noneByADoor);
        checks.test("promise 16: '.. and then nothing changes'", ReplaceTests::noneChanged);
        checks.test("promise 16: 'all its copies are void then'", ReplaceTests::replaceCopies);
        checks.test("promise 16: void copies stay void", ReplaceTests::replaceTwice);
        checks.test("promise 16: pins change with the code", ReplaceTests::pinsThen);
    }

    private static void replace(Checks c) {
        KeyCabinet cabinet = Houses.withKeys("00000", "00001");
        cabinet.addDoor(0b01);
        c.same("replace(0)", cabinet.replace(0), Houses.number("00002"));
        c.same("code(0)", cabinet.code(0), 2);
        c.same("pins(0, 4)", cabinet.pins(0, 4), 4);
        c.same("opens(0, 0)", cabinet.opens(0, 0), true);
        c.same("replace(1) of a key without doors", cabinet.replace(1), 0);
        c.refused(cabinet, "replace(2)", INDEX, () -> cabinet.replace(2));
        c.refused(cabinet, "replace(-1)", INDEX, () -> cabinet.replace(-1));
    }

    /** Keys 2 and 3 stray at every code of less work, such as 00001, and of smaller codes too. */
    private static void replaceStrays(Checks c) {
        KeyCabinet cabinet = Houses.withKeys("00000", "11111", "01111", "10111");
        cabinet.addDoor(0b0011);
        c.same("strays()", cabinet.strays(), 2);
        c.same("replace(0)", cabinet.replace(0), Houses.number("11000"));
        c.same("strays() then", cabinet.strays(), 0);
        c.same("work() then", cabinet.work(), 12);
    }

    /** 00001 is taken, and with 00002 the key itself would stray at door 1. */
    private static void replaceOwnStrays(Checks c) {
        KeyCabinet cabinet = Houses.withKeys("00000", "00001", "00012");
        cabinet.addDoor(0b001);
        cabinet.addDoor(0b110);
        c.same("replace(0)", cabinet.replace(0), Houses.number("00003"));
        c.same("strays()", cabinet.strays(), 0);
    }

    /** 00003 makes use of a pin that stays: less work than 00000 would make. */
    private static void replaceWork(Checks c) {
        KeyCabinet cabinet = Houses.withKeys("00001", "33323");
        cabinet.addDoor(0b01);
        cabinet.addDoor(0b11);
        c.same("work()", cabinet.work(), 15);
        c.same("replace(0)", cabinet.replace(0), Houses.number("00003"));
        c.same("work() then", cabinet.work(), 18);
    }

    /** A pin that goes out costs one; that others stay costs nothing. */
    private static void replaceAllWork(Checks c) {
        KeyCabinet cabinet = Houses.withKeys("00000", "33333");
        cabinet.addDoor(0b11);
        c.same("replace(1)", cabinet.replace(1), Houses.number("03333"));
        c.same("work()", cabinet.work(), 11);
        KeyCabinet two = Houses.withKeys("33333", "00000");
        two.addDoor(0b11);
        two.addDoor(0b10);
        c.same("replace(1) with two doors", two.replace(1), Houses.number("00003"));
        c.same("work() with two doors", two.work(), 18);
    }

    /** Many codes make no stray; those of the least work of all come later, but make some. */
    private static void replaceOrder(Checks c) {
        KeyCabinet cabinet = Houses.withKeys("33333", "22222", "32222", "23222");
        cabinet.addDoor(0b0011);
        c.same("replace(0)", cabinet.replace(0), Houses.number("22333"));
        c.same("work()", cabinet.work(), 12);
    }

    private static void replaceNone(Checks c) {
        KeyCabinet cabinet = Houses.withStray();
        int copy = cabinet.cut(2);
        cabinet.lend(copy, 1, 1);
        long before = cabinet.digest();
        c.same("replace(2), whose old code strays", cabinet.replace(2), -1);
        c.same("digest()", cabinet.digest(), before);
        c.same("copy(0, 1)", cabinet.copy(copy, 1), 1);
        cabinet.setRights(0, 0b111);
        c.same("replace(2), whose pins others keep", cabinet.replace(2), -1);
    }

    private static void replaceCopies(Checks c) {
        KeyCabinet cabinet = Houses.withKeys("00000", "11111");
        cabinet.addDoor(0b01);
        cabinet.addDoor(0b10);
        for (int copy = 0; copy < 6; copy++) {
            cabinet.cut(copy == 4 ? 1 : 0);
        }
        cabinet.lend(1, 5, 3);
        cabinet.lend(3, 5, 3);
        cabinet.lose(2);
        cabinet.lend(4, 6, 9);
        cabinet.pass(1);
        cabinet.giveBack(3);
        c.same("replace(0)", cabinet.replace(0), Houses.number("00001"));
        for (int copy = 0; copy < 6; copy++) {
            c.same("copy(" + copy + ", 1)", cabinet.copy(copy, 1), copy == 4 ? 1 : 3);
            c.same("copy(" + copy + ", 2)", cabinet.copy(copy, 2), copy == 4 ? 6 : -1);
            c.same("copy(" + copy + ", 3)", cabinet.copy(copy, 3), copy == 4 ? 9 : -1);
        }
        c.same("copy(1, 4)", cabinet.copy(1, 4), 1);
        c.same("risk()", cabinet.risk(), 0);
        c.same("reach(5)", cabinet.reach(5), 0);
        c.same("holderAt(1, 0)", cabinet.holderAt(1, 0), 5);
        c.same("holderAt(1, 1)", cabinet.holderAt(1, 1), -1);
        int copy = cabinet.cut(0);
        c.same("copy(6, 1) of a copy cut since", cabinet.copy(copy, 1), 0);
    }

    /** The codes are 0, 1, 2 ..; without doors the smallest code that is free is the best. */
    private static void noKeyHas(Checks c) {
        KeyCabinet cabinet = Houses.sized(3, 0, 0);
        c.same("replace(1)", cabinet.replace(1), 3);
        c.same("replace(0), to the code that key 1 left", cabinet.replace(0), 1);
        c.same("replace(2), to the code that key 0 left", cabinet.replace(2), 0);
        KeyCabinet full = Houses.sized(8, 0, 0);
        c.same("replace(7) of 8", full.replace(7), 8);
        c.same("replace(0) of 8", full.replace(0), 7);
        c.same("code(0) of 8", full.code(0), 7);
        for (int key = 1; key < 7; key++) {
            c.same("code of another key", full.code(key), key);
        }
        // 00001, 00002, 00003 and, of the last key, 00010 would each be the least work.
        c.same("replace(0) with a door", Houses.sized(5, 1, 0).replace(0), Houses.number("00020"));
        c.same("replace(0) of 8 with a door", Houses.sized(8, 1, 0).replace(0), 8);
    }

    /** The code that a key leaves is one that a key has. */
    private static void ownCode(Checks c) {
        c.same("of code 0", Houses.withKeys("00000").replace(0), 1);
        c.same("of code 1", Houses.withKeys("00001").replace(0), 0);
        c.same("of code 1023", Houses.withKeys("33333").replace(0), 0);
        KeyCabinet cabinet = Houses.withKeys("00001", "00000", "00003");
        c.same("replace(1) of three", cabinet.replace(1), 2);
        c.same("replace(1) of three again", cabinet.replace(1), 0);
    }

    /** With 00010 there would be less work, but key 1 keeps all the pins that the old code needs. */
    private static void oldCode(Checks c) {
        KeyCabinet cabinet = Houses.withKeys("00000", "00001");
        cabinet.addDoor(0b11);
        c.same("replace(0)", cabinet.replace(0), Houses.number("00002"));
        int old = cabinet.addKey(Houses.number("00000"));
        c.same("doors of the old code", cabinet.doors(old), 0);
        KeyCabinet first = Houses.withKeys("00000", "10000");
        first.addDoor(0b11);
        c.same("replace(0), the first digit", first.replace(0), Houses.number("10001"));
        old = first.addKey(0);
        c.same("doors of the old code, the first digit", first.doors(old), 0);
    }

    /** One door of two keeps the pins of the old code, whichever it is. */
    private static void oldCodeMany(Checks c) {
        for (int shared = 0; shared < 8; shared++) {
            KeyCabinet cabinet = Houses.withKeys("00000", "00001");
            for (int door = 0; door < 8; door++) {
                cabinet.addDoor(door == shared ? 0b11 : 0b01);
            }
            c.same("replace(0), door " + shared, cabinet.replace(0), Houses.number("00002"));
            int old = cabinet.addKey(0);
            c.same("doors of the old code", cabinet.doors(old), 0);
        }
    }

    /** Key 3 strays at door 0 whatever code key 0 has. */
    private static void straysThatStay(Checks c) {
        KeyCabinet cabinet = Houses.withKeys("00000", "11110", "11101", "11111");
        cabinet.addDoor(0b0110);
        cabinet.addDoor(0b0001);
        c.same("strays()", cabinet.strays(), 1);
        c.same("replace(0)", cabinet.replace(0), Houses.number("00001"));
        c.same("strays() then", cabinet.strays(), 1);
    }

    /** Three keys stray at each of the eight doors; key 7 does not while its last digit is 3. */
    private static void manyStrays(Checks c) {
        KeyCabinet cabinet = Houses.withKeys(
                "00000", "11111", "22222", "33332", "01230", "12301", "23012", "33333");
        for (int door = 0; door < 8; door++) {
            cabinet.addDoor(0b00001111);
        }
        c.same("strays()", cabinet.strays(), 24);
        c.same("replace(7)", cabinet.replace(7), Houses.number("00003"));
        c.same("strays() then", cabinet.strays(), 24);
        c.same("work() then", cabinet.work(), 8 * 19);
    }

    private static void smallest(Checks c) {
        KeyCabinet cabinet = Houses.withKeys("33333");
        cabinet.addDoor(1);
        c.same("replace of 33333", cabinet.replace(0), Houses.number("03333"));
        c.same("replace of 03333", cabinet.replace(0), Houses.number("00333"));
        c.same("replace of 00333", cabinet.replace(0), Houses.number("00033"));
        KeyCabinet middle = Houses.withKeys("11111");
        middle.addDoor(1);
        middle.addDoor(1);
        c.same("replace of 11111", middle.replace(0), Houses.number("01111"));
        c.same("work()", middle.work(), 14);
    }

    /** The key has no right there, so that no code of its own can shut the old one out. */
    private static void noneByADoor(Checks c) {
        for (int stray = 0; stray < 8; stray++) {
            KeyCabinet cabinet = Houses.withKeys("00110", "00100", "00010");
            for (int door = 0; door < 8; door++) {
                cabinet.addDoor(door == stray ? 0b110 : 0b001);
            }
            cabinet.cut(0);
            long before = cabinet.digest();
            c.same("replace(0), straying at " + stray, cabinet.replace(0), -1);
            c.same("digest()", cabinet.digest(), before);
            c.same("replace(1)", cabinet.replace(1) >= 0, true);
        }
    }

    private static void noneChanged(Checks c) {
        new Unchanged(c, ReplaceTests::withNone).by("replace(2)", -1, x -> x.replace(2));
    }

    /** Copies of key 2, which can have no other code: in the cabinet, lent, overdue and lost. */
    private static KeyCabinet withNone() {
        KeyCabinet cabinet = Houses.withStray();
        Houses.cutAll(cabinet, 2, 2, 2, 2, 0);
        cabinet.lend(1, 3, 9);
        cabinet.lend(2, 4, 1);
        cabinet.lend(3, 5, 1);
        cabinet.pass(2);
        cabinet.lose(3);
        return cabinet;
    }

    private static void replaceTwice(Checks c) {
        KeyCabinet cabinet = Houses.withDoors(0b01, 0b10);
        Houses.cutAll(cabinet, 0, 1);
        cabinet.lend(0, 2, 5);
        cabinet.pass(1);
        c.same("replace(0)", cabinet.replace(0), Houses.number("00001"));
        c.same("copy(0, 1)", cabinet.copy(0, 1), 3);
        c.same("overdue()", cabinet.overdue(), 0);
        cabinet.cut(0);
        cabinet.lend(2, 6, 5);
        cabinet.pass(1);
        c.same("replace(0) again", cabinet.replace(0), Houses.number("00000"));
        c.same("copy(0, 1) then", cabinet.copy(0, 1), 3);
        c.same("copy(1, 1) of another key", cabinet.copy(1, 1), 0);
        c.same("copy(2, 1) then", cabinet.copy(2, 1), 3);
        c.same("holderAt(0, 0)", cabinet.holderAt(0, 0), 2);
        c.same("holderAt(0, 1)", cabinet.holderAt(0, 1), -1);
        c.same("holderAt(2, 1)", cabinet.holderAt(2, 1), 6);
        c.same("holderAt(2, 2)", cabinet.holderAt(2, 2), -1);
        c.same("copy(0, 0)", cabinet.copy(0, 0), 0);
        c.same("copy(0, 4)", cabinet.copy(0, 4), 1);
    }

    private static void pinsThen(Checks c) {
        KeyCabinet cabinet = Houses.withKeys("00000", "22222");
        cabinet.addDoor(0b01);
        cabinet.addDoor(0b10);
        cabinet.addDoor(0b11);
        cabinet.cut(0);
        c.same("replace(0)", cabinet.replace(0), Houses.number("00002"));
        c.same("pins(0, 4)", cabinet.pins(0, 4), 0b0100);
        c.same("pins(0, 3)", cabinet.pins(0, 3), 0b0001);
        c.same("pins(1, 4)", cabinet.pins(1, 4), 0b0100);
        c.same("pins(1, 3)", cabinet.pins(1, 3), 0b0100);
        c.same("pins(2, 4)", cabinet.pins(2, 4), 0b0100);
        c.same("pins(2, 3)", cabinet.pins(2, 3), 0b0101);
        c.same("doors(0)", cabinet.doors(0), 0b101);
        c.same("work()", cabinet.work(), 5 + 5 + 10 + 2 + 1);
    }
}
