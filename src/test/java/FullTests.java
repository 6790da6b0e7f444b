/** As many keys, doors, copies, loans and days as there can be, and one more. */
final class FullTests {
    private static final Class<IllegalStateException> STATE = IllegalStateException.class;

    private FullTests() {
    }

    static void addTo(Checks checks) {
        checks.test("'There are at most 8 keys'", FullTests::keys);
        checks.test("'no two have the same' code", FullTests::sameCode);
        checks.test("'There are at most 8 doors'", FullTests::doors);
        checks.test("'There are at most 24 copies'", FullTests::copies);
        checks.test("'at most 24 copies', void and lost ones with them", FullTests::usedCopies);
        checks.test("'A copy can be lent 9 times at most'", FullTests::loans);
        checks.test("'lent 9 times at most', each copy by itself", FullTests::allLoans);
        checks.test("'lent 9 times at most', found ones too", FullTests::foundLoans);
        checks.test("'later than day 9999', a day at a time", FullTests::lastDay);
        checks.test("'later than day 9999', many days at a time", FullTests::lastDays);
        checks.test("a loan that is due after day 9999", FullTests::dueLater);
    }

    private static void keys(Checks c) {
        KeyCabinet cabinet = new KeyCabinet();
        for (int key = 0; key < 8; key++) {
            c.same("addKey", cabinet.addKey(1023 - key), key);
            c.same("keyCount()", cabinet.keyCount(), key + 1);
        }
        c.refused(cabinet, "the 9th addKey", STATE, () -> cabinet.addKey(0));
        c.refused(cabinet, "the 9th addKey, its code taken", STATE, () -> cabinet.addKey(1016));
        for (int key = 0; key < 8; key++) {
            c.same("code(" + key + ")", cabinet.code(key), 1023 - key);
        }
        c.same("replace(3)", cabinet.replace(3), 0);
        c.refused(cabinet, "the 9th addKey, of the code that was left", STATE,
                () -> cabinet.addKey(1020));
        c.same("addDoor(255)", cabinet.addDoor(255), 0);
    }

    private static void sameCode(Checks c) {
        for (int other = 0; other < 7; other++) {
            KeyCabinet cabinet = Houses.sized(7, 0, 0);
            int taken = other;
            c.refused(cabinet, "addKey(" + taken + ")", STATE, () -> cabinet.addKey(taken));
            c.same("addKey(7) then", cabinet.addKey(7), 7);
        }
        KeyCabinet cabinet = Houses.withKeys("00002", "00001");
        c.same("replace(0)", cabinet.replace(0), 0);
        c.refused(cabinet, "addKey(0), which replace gave", STATE, () -> cabinet.addKey(0));
        c.same("addKey(2), which replace left", cabinet.addKey(2), 2);
        c.refused(cabinet, "addKey(2) again", STATE, () -> cabinet.addKey(2));
    }

    private static void doors(Checks c) {
        KeyCabinet cabinet = Houses.sized(8, 0, 0);
        for (int door = 0; door < 8; door++) {
            c.same("addDoor", cabinet.addDoor(128 >> door), door);
            c.same("doorCount()", cabinet.doorCount(), door + 1);
        }
        c.refused(cabinet, "the 9th addDoor", STATE, () -> cabinet.addDoor(255));
        c.refused(cabinet, "the 9th addDoor, for no key", STATE, () -> cabinet.addDoor(0));
        for (int door = 0; door < 8; door++) {
            c.same("openers(" + door + ")", cabinet.openers(door), 128 >> door);
            c.same("doors(" + door + ")", cabinet.doors(door), 128 >> door);
        }
        c.same("setRights(7, 0)", cabinet.setRights(7, 0), 1);
        c.refused(cabinet, "the 9th addDoor, when one has no rights", STATE,
                () -> cabinet.addDoor(1));
    }

    private static void copies(Checks c) {
        KeyCabinet cabinet = Houses.sized(8, 8, 0);
        for (int copy = 0; copy < 24; copy++) {
            c.same("cut", cabinet.cut(7 - copy % 8), copy);
            c.same("copyCount()", cabinet.copyCount(), copy + 1);
        }
        for (int key = 0; key < 8; key++) {
            int of = key;
            c.refused(cabinet, "the 25th cut(" + key + ")", STATE, () -> cabinet.cut(of));
        }
        for (int copy = 0; copy < 24; copy++) {
            c.same("copy(" + copy + ", 0)", cabinet.copy(copy, 0), 7 - copy % 8);
            c.same("copy(" + copy + ", 1)", cabinet.copy(copy, 1), 0);
        }
        c.same("lend(23, 7, 99)", cabinet.lend(23, 7, 99), 99);
        c.same("reach(7)", cabinet.reach(7), 1);
        c.same("lose(22)", cabinet.lose(22), 2);
        c.same("risk()", cabinet.risk(), 2);
    }

    private static void usedCopies(Checks c) {
        KeyCabinet cabinet = Houses.sized(2, 2, 24);
        for (int copy = 1; copy < 24; copy += 2) {
            cabinet.lose(copy);
        }
        cabinet.replace(0);
        c.same("copy(0, 1)", cabinet.copy(0, 1), 3);
        c.same("copyCount()", cabinet.copyCount(), 24);
        c.refused(cabinet, "a 25th cut of key 0", STATE, () -> cabinet.cut(0));
        c.refused(cabinet, "a 25th cut of key 1", STATE, () -> cabinet.cut(1));
    }

    private static void loans(Checks c) {
        KeyCabinet cabinet = Houses.sized(1, 1, 1);
        for (int time = 1; time <= 9; time++) {
            c.same("lend(0, 0, 1)", cabinet.lend(0, 0, 1), 1);
            c.same("copy(0, 4)", cabinet.copy(0, 4), time);
            cabinet.giveBack(0);
            c.same("copy(0, 4) when it is back", cabinet.copy(0, 4), time);
        }
        c.same("copy(0, 1)", cabinet.copy(0, 1), 0);
        c.refused(cabinet, "the 10th lend", STATE, () -> cabinet.lend(0, 0, 1));
        cabinet.pass(99);
        c.refused(cabinet, "the 10th lend later", STATE, () -> cabinet.lend(0, 7, 99));
        c.same("lose(0)", cabinet.lose(0), 1);
        c.same("copy(0, 4) when it is lost", cabinet.copy(0, 4), 9);
    }

    private static void allLoans(Checks c) {
        KeyCabinet cabinet = Houses.sized(1, 1, 24);
        for (int copy = 0; copy < 24; copy += 23) {
            Houses.wear(cabinet, copy, 8);
            c.same("the 9th lend", cabinet.lend(copy, copy % 8, 2), 2);
        }
        Houses.wear(cabinet, 1, 9);
        Houses.wear(cabinet, 22, 9);
        c.same("reach(7)", cabinet.reach(7), 1);
        c.same("copy(0, 2)", cabinet.copy(0, 2), 0);
        c.same("copy(23, 2)", cabinet.copy(23, 2), 7);
        cabinet.giveBack(0);
        cabinet.giveBack(23);
        for (int copy : new int[] {0, 1, 22, 23}) {
            c.refused(cabinet, "the 10th lend of " + copy, STATE, () -> cabinet.lend(copy, 0, 1));
        }
        c.same("lend(2, 0, 1)", cabinet.lend(2, 0, 1), 1);
        c.same("lend(21, 0, 1)", cabinet.lend(21, 0, 1), 1);
    }

    private static void foundLoans(Checks c) {
        KeyCabinet cabinet = Houses.sized(1, 1, 1);
        for (int time = 1; time <= 9; time++) {
            c.same("lend(0, 0, 1)", cabinet.lend(0, 0, 1), 1);
            cabinet.lose(0);
            cabinet.find(0);
            c.same("copy(0, 4) when it is found", cabinet.copy(0, 4), time);
        }
        c.refused(cabinet, "the 10th lend", STATE, () -> cabinet.lend(0, 0, 1));
    }

    private static void lastDay(Checks c) {
        KeyCabinet cabinet = new KeyCabinet();
        Houses.passTo(cabinet, 9997);
        c.refused(cabinet, "pass(3) on day 9997", STATE, () -> cabinet.pass(3));
        c.same("pass(1)", cabinet.pass(1), 9998);
        c.refused(cabinet, "pass(2) on day 9998", STATE, () -> cabinet.pass(2));
        c.same("pass(1)", cabinet.pass(1), 9999);
        c.refused(cabinet, "pass(1) on day 9999", STATE, () -> cabinet.pass(1));
        c.same("today()", cabinet.today(), 9999);
    }

    private static void lastDays(Checks c) {
        for (int days = 1; days <= 99; days++) {
            KeyCabinet cabinet = new KeyCabinet();
            Houses.passTo(cabinet, 9999 - days);
            int last = days;
            if (last < 99) {
                c.refused(cabinet, "pass to day 10000", STATE, () -> cabinet.pass(last + 1));
            }
            c.same("pass to day 9999", cabinet.pass(last), 9999);
            c.refused(cabinet, "pass(" + last + ") on day 9999", STATE, () -> cabinet.pass(last));
        }
    }

    private static void dueLater(Checks c) {
        KeyCabinet cabinet = Houses.sized(1, 1, 2);
        Houses.passTo(cabinet, 9998);
        c.same("lend(0, 0, 99)", cabinet.lend(0, 0, 99), 10097);
        c.same("lend(1, 0, 1)", cabinet.lend(1, 0, 1), 9999);
        cabinet.pass(1);
        c.same("copy(0, 3)", cabinet.copy(0, 3), 10097);
        c.same("overdue()", cabinet.overdue(), 0);
        c.same("holderAt(0, 9999)", cabinet.holderAt(0, 9999), 0);
        c.same("giveBack(0)", cabinet.giveBack(0), 0);
        c.same("holderAt(0, 9999)", cabinet.holderAt(0, 9999), -1);
        c.same("holderAt(0, 9998)", cabinet.holderAt(0, 9998), 0);
        c.same("giveBack(1)", cabinet.giveBack(1), 0);
    }
}
