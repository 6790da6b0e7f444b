/**
 * 'An object is used for at most 512 calls after it has been made': what the document promises holds
 * up to the 512th call, whatever the calls before it were.
 */
final class LongUseTests {
    private static final Class<IllegalStateException> STATE = IllegalStateException.class;
    private static final int CALLS = 512;
    private static final int COPIES = 24;
    private static final int LOANS = 9;

    private LongUseTests() {
    }

    static void addTo(Checks checks) {
        checks.test("512 calls: all copies lent 9 times, and who had them", LongUseTests::allLoans);
        checks.test("512 calls: the work of setRights, 'so far'", LongUseTests::workOfRights);
        checks.test("512 calls: the work of replace, 'so far'", LongUseTests::workOfCodes);
        checks.test("512 calls: a day that comes late", LongUseTests::days);
        checks.test("512 calls: lost and found without an end", LongUseTests::lostAndFound);
        checks.test("512 calls: all that is refused", LongUseTests::refused);
        checks.test("512 calls: all that is asked", LongUseTests::asked);
        checks.test("512 calls: two objects in turn", LongUseTests::twoInTurn);
    }

    /** The 476 calls of allLent leave room for 36 questions, so twelve objects answer all of them. */
    private static void allLoans(Checks c) {
        int days = 2 * LOANS;
        int left = CALLS - 2 - COPIES - LOANS * (2 * COPIES + 2);
        for (int first = 0; first < COPIES * days; first += left) {
            KeyCabinet cabinet = allLent();
            for (int n = first; n < first + left; n++) {
                int copy = n / days;
                int day = n % days;
                int due = day % 2 == 1 ? -1 : (copy + day / 2) % 8;
                c.same("holderAt(" + copy + ", " + day + ")", cabinet.holderAt(copy, day), due);
            }
        }
        KeyCabinet cabinet = allLent();
        for (int copy = 0; copy < COPIES; copy++) {
            c.same("copy(" + copy + ", 4)", cabinet.copy(copy, 4), LOANS);
        }
        c.refused(cabinet, "a 10th lend of copy 0", STATE, () -> cabinet.lend(0, 0, 1));
        c.refused(cabinet, "a 10th lend of copy 23", STATE, () -> cabinet.lend(23, 0, 1));
        c.same("suggest(0, 1)", cabinet.suggest(0, 1), -1);
    }

    /** Each copy is lent on each day of an even number, and back on the next one. */
    private static KeyCabinet allLent() {
        KeyCabinet cabinet = Houses.sized(1, 1, COPIES);
        for (int time = 0; time < LOANS; time++) {
            for (int copy = 0; copy < COPIES; copy++) {
                cabinet.lend(copy, (copy + time) % 8, 1 + copy);
            }
            cabinet.pass(1);
            for (int copy = 0; copy < COPIES; copy++) {
                cabinet.giveBack(copy);
            }
            cabinet.pass(1);
        }
        return cabinet;
    }

    private static void workOfRights(Checks c) {
        KeyCabinet cabinet = Houses.withDoors(0b1111);
        int times = CALLS - 7;
        for (int time = 0; time < times; time++) {
            int before = time % 2 == 0 ? 0b1111 : 0;
            c.same("setRights", cabinet.setRights(0, 0b1111 - before), before);
        }
        c.same("work()", cabinet.work(), 20 + 20 * times);
        c.same("codes(0)", cabinet.codes(0), 0);
    }

    /** Of 00000 and 00001 each is the best one after the other. */
    private static void workOfCodes(Checks c) {
        KeyCabinet cabinet = Houses.withKeys("00000");
        for (int door = 0; door < 8; door++) {
            cabinet.addDoor(1);
        }
        int times = CALLS - 12;
        for (int time = 0; time < times; time++) {
            c.same("replace(0)", cabinet.replace(0), 1 - time % 2);
        }
        c.same("work()", cabinet.work(), 8 * 5 + 16 * times);
        c.same("code(0)", cabinet.code(0), 0);
        c.same("doors(0)", cabinet.doors(0), 255);
    }

    private static void days(Checks c) {
        KeyCabinet cabinet = Houses.sized(1, 1, 1);
        cabinet.lend(0, 5, 99);
        int times = CALLS - 8;
        for (int time = 1; time <= times; time++) {
            c.same("pass(19)", cabinet.pass(19), 19 * time);
        }
        c.same("today()", cabinet.today(), 19 * times);
        c.same("holderAt(0, 0)", cabinet.holderAt(0, 0), 5);
        c.same("overdue()", cabinet.overdue(), 1);
        c.same("giveBack(0)", cabinet.giveBack(0), 19 * times - 99);
    }

    /** The document has a limit for loans, and none for losses. */
    private static void lostAndFound(Checks c) {
        KeyCabinet cabinet = Houses.sized(1, 1, 1);
        for (int time = 0; time < 250; time++) {
            c.same("lose(0)", cabinet.lose(0), 1);
            c.same("find(0)", cabinet.find(0), 0);
        }
        c.same("copy(0, 1)", cabinet.copy(0, 1), 0);
        c.same("copy(0, 4)", cabinet.copy(0, 4), 0);
        c.same("holderAt(0, 0)", cabinet.holderAt(0, 0), -1);
        c.same("lend(0, 3, 4)", cabinet.lend(0, 3, 4), 4);
        c.same("reach(3)", cabinet.reach(3), 1);
    }

    /** Nothing is used up by what is refused, however often it is. */
    private static void refused(Checks c) {
        KeyCabinet cabinet = Houses.sized(2, 2, 2);
        cabinet.lend(0, 1, 2);
        long before = cabinet.digest();
        for (int time = 0; time < 60; time++) {
            c.same("addKey", Checks.outcome(() -> cabinet.addKey(1)), thrown(STATE));
            c.same("addDoor", Checks.outcome(() -> cabinet.addDoor(4)),
                    thrown(IllegalArgumentException.class));
            c.same("cut", Checks.outcome(() -> cabinet.cut(2)),
                    thrown(IndexOutOfBoundsException.class));
            c.same("lend", Checks.outcome(() -> cabinet.lend(0, 2, 1)), thrown(STATE));
            c.same("giveBack", Checks.outcome(() -> cabinet.giveBack(1)), thrown(STATE));
            c.same("find", Checks.outcome(() -> cabinet.find(1)), thrown(STATE));
            c.same("pass", Checks.outcome(() -> cabinet.pass(100)),
                    thrown(IllegalArgumentException.class));
        }
        c.same("digest()", cabinet.digest(), before);
        for (int key = 2; key < 8; key++) {
            c.same("addKey", cabinet.addKey(key), key);
            c.same("addDoor", cabinet.addDoor(1 << key), key);
        }
        for (int copy = 2; copy < COPIES; copy++) {
            c.same("cut", cabinet.cut(copy % 8), copy);
        }
        for (int time = 1; time <= LOANS; time++) {
            c.same("copy(0, 4)", cabinet.copy(0, 4), time);
            c.same("giveBack(0)", cabinet.giveBack(0), 0);
            if (time < LOANS) {
                c.same("lend(0, 2, 1)", cabinet.lend(0, 2, 1), 1);
            }
        }
        c.refused(cabinet, "the 10th lend", STATE, () -> cabinet.lend(0, 2, 1));
    }

    private static String thrown(Class<? extends RuntimeException> exception) {
        return "throws " + exception.getSimpleName();
    }

    /** Each question is asked again and again: 43 calls make the cabinet, and the last is the 512th. */
    private static void asked(Checks c) {
        for (Telling.Question question : Telling.questions(Houses.lived())) {
            if (!question.text().contains("(0") && !question.text().endsWith("()")) {
                continue;
            }
            KeyCabinet cabinet = Houses.lived();
            long before = cabinet.digest();
            Object first = question.of(cabinet);
            for (int time = 0; time < CALLS - 46; time++) {
                c.same(question.text(), question.of(cabinet), first);
            }
            c.same("digest() after " + question.text(), cabinet.digest(), before);
        }
    }

    /** What one object is asked and told is nothing to the other one. */
    private static void twoInTurn(Checks c) {
        KeyCabinet one = Houses.sized(8, 8, 0);
        KeyCabinet two = Houses.withDoors(0b0001, 0b0010, 0b0100);
        for (int copy = 0; copy < COPIES; copy++) {
            c.same("cut of one", one.cut(copy % 8), copy);
            c.same("cut of two", two.cut(2 - copy % 3), copy);
        }
        for (int copy = 0; copy < COPIES; copy++) {
            c.same("lend of one", one.lend(copy, copy % 8, 3), copy / 8 + 3);
            c.same("lend of two", two.lend(copy, 7 - copy % 8, 1), copy / 8 * 2 + 1);
            c.same("reach of one", one.reach(copy % 8), 1 << copy % 8);
            c.same("suggest of one", one.suggest(copy % 8, 1 << copy % 8), 0);
            c.same("suggest of two", two.suggest(7 - copy % 8, 1 << 2 - copy % 3), 0);
            if (copy % 8 == 7) {
                c.same("pass of one", one.pass(1), copy / 8 + 1);
                c.same("pass of two", two.pass(2), copy / 8 * 2 + 2);
            }
        }
        twoLent(c, one, two);
        c.same("overdue() of one", one.overdue(), 0);
        c.same("overdue() of two", two.overdue(), 0xffffff);
        c.same("replace(1) of two", two.replace(1), Houses.number("01111"));
        c.same("code(1) of one", one.code(1), 1);
        c.same("work() of one", one.work(), 40);
        c.same("work() of two", two.work(), 17);
    }

    /** Copies 0 to 7 of one were lent on day 0, and so on, a day each; of two, two days each. */
    private static void twoLent(Checks c, KeyCabinet one, KeyCabinet two) {
        for (int copy = 0; copy < COPIES; copy++) {
            int day = copy / 8;
            c.same("copy .. 0 of one", one.copy(copy, 0), copy % 8);
            c.same("copy .. 0 of two", two.copy(copy, 0), 2 - copy % 3);
            c.same("copy .. 2 of one", one.copy(copy, 2), copy % 8);
            c.same("copy .. 2 of two", two.copy(copy, 2), 7 - copy % 8);
            c.same("copy .. 3 of one", one.copy(copy, 3), day + 3);
            c.same("copy .. 3 of two", two.copy(copy, 3), day * 2 + 1);
            c.same("holderAt of one, that day", one.holderAt(copy, day), copy % 8);
            c.same("holderAt of two, that day", two.holderAt(copy, day * 2), 7 - copy % 8);
            if (day > 0) {
                c.same("holderAt of one, before", one.holderAt(copy, day - 1), -1);
                c.same("holderAt of two, before", two.holderAt(copy, day * 2 - 1), -1);
            }
            if (copy % 2 == 0) {
                c.same("giveBack of one", one.giveBack(copy), 0);
                c.same("holderAt of two, then", two.holderAt(copy, 6), 7 - copy % 8);
            }
        }
        for (int copy = 0; copy < COPIES; copy += 2) {
            c.same("lend of one again", one.lend(copy, 0, 9), 12);
        }
    }
}
