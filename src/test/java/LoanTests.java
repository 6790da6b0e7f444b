/** Promises 19, 26 and 27: what is late, and who had a copy when. */
final class LoanTests {
    private static final Class<IllegalArgumentException> BAD = IllegalArgumentException.class;
    private static final Class<IndexOutOfBoundsException> INDEX = IndexOutOfBoundsException.class;

    private LoanTests() {
    }

    static void addTo(Checks checks) {
        checks.test("promise 18: 'due on the day that is so many days later'", LoanTests::due);
        checks.test("promise 19: 'by how many days it is late; 0 if it is not'", LoanTests::late);
        checks.test("promise 19: a later loan has its own due day", LoanTests::lateAgain);
        checks.test("promise 26: overdue", LoanTests::overdue);
        checks.test("promise 26: 'that day has passed'", LoanTests::hasPassed);
        checks.test("promise 26: 'if it is lent'", LoanTests::ifLent);
        checks.test("promise 26: all copies overdue", LoanTests::allOverdue);
        checks.test("promise 27: holderAt", LoanTests::holderAt);
        checks.test("promise 27: holderAt, several loans", LoanTests::holderAtLoans);
        checks.test("promise 27: holderAt, all loans of the last copy", LoanTests::holderAtLast);
        checks.test("promise 27: '(today: now)'", LoanTests::now);
        checks.test("promise 27: given back and lent again on one day", LoanTests::givenAndLent);
        checks.test("promise 27: lost, found and lent again on one day", LoanTests::foundAndLent);
        checks.test("promise 27: made void on a day", LoanTests::madeVoid);
        checks.test("promise 27: 9 loans on one day", LoanTests::allOnOneDay);
        checks.test("promise 27: '-1 if it was not lent'", LoanTests::notLent);
        checks.test("promise 27: while it is overdue or lost", LoanTests::overdueAndLost);
    }

    private static void overdue(Checks c) {
        KeyCabinet cabinet = CopyTests.withCopies();
        cabinet.lend(0, 1, 1);
        cabinet.lend(1, 1, 2);
        cabinet.lend(2, 2, 1);
        cabinet.pass(1);
        c.same("overdue() on the day", cabinet.overdue(), 0);
        cabinet.pass(1);
        c.same("overdue() a day later", cabinet.overdue(), 0b101);
        cabinet.pass(1);
        c.same("overdue() two days later", cabinet.overdue(), 0b111);
        cabinet.lose(0);
        cabinet.giveBack(1);
        c.same("overdue() without lost and given ones", cabinet.overdue(), 0b100);
        cabinet.replace(0);
        c.same("overdue() without void ones", cabinet.overdue(), 0);
    }

    private static void holderAt(Checks c) {
        KeyCabinet cabinet = CopyTests.withCopies();
        cabinet.pass(2);
        cabinet.lend(0, 5, 1);
        c.same("holderAt(0, 2), today", cabinet.holderAt(0, 2), 5);
        c.same("holderAt(0, 1)", cabinet.holderAt(0, 1), -1);
        cabinet.pass(3);
        c.same("holderAt(0, 5), overdue", cabinet.holderAt(0, 5), 5);
        cabinet.giveBack(0);
        c.same("holderAt(0, 5), given back", cabinet.holderAt(0, 5), -1);
        c.same("holderAt(0, 4)", cabinet.holderAt(0, 4), 5);
        c.same("holderAt(0, 0)", cabinet.holderAt(0, 0), -1);
        c.same("holderAt(1, 3), of another copy", cabinet.holderAt(1, 3), -1);
        c.refused(cabinet, "holderAt(0, 6)", BAD, () -> cabinet.holderAt(0, 6));
        c.refused(cabinet, "holderAt(0, -1)", BAD, () -> cabinet.holderAt(0, -1));
        c.refused(cabinet, "holderAt(3, 0)", INDEX, () -> cabinet.holderAt(3, 0));
        c.refused(cabinet, "holderAt(-1, 0)", INDEX, () -> cabinet.holderAt(-1, 0));
        c.refused(cabinet, "holderAt(3, 6)", INDEX, () -> cabinet.holderAt(3, 6));
    }

    private static void holderAtLoans(Checks c) {
        KeyCabinet cabinet = CopyTests.withCopies();
        for (int time = 0; time < 8; time++) {
            cabinet.lend(0, time, 9);
            if (time % 2 == 1) {
                cabinet.pass(1);
            }
            cabinet.giveBack(0);
        }
        for (int day = 0; day < 4; day++) {
            c.same("holderAt(0, " + day + ")", cabinet.holderAt(0, day), 2 * day + 1);
        }
        c.same("holderAt(0, 4)", cabinet.holderAt(0, 4), -1);
        cabinet.lend(0, 2, 1);
        cabinet.pass(9);
        cabinet.lose(0);
        c.same("holderAt(0, 12)", cabinet.holderAt(0, 12), 2);
        c.same("holderAt(0, 13), lost", cabinet.holderAt(0, 13), -1);
        cabinet.find(0);
        c.same("holderAt(0, 13), found", cabinet.holderAt(0, 13), -1);
    }

    private static void holderAtLast(Checks c) {
        KeyCabinet cabinet = Houses.withKeys("00000");
        for (int copy = 0; copy < 24; copy++) {
            cabinet.cut(0);
        }
        for (int time = 0; time < 9; time++) {
            cabinet.lend(23, time % 8, 1);
            cabinet.pass(2);
            cabinet.giveBack(23);
            cabinet.pass(1);
        }
        for (int day = 0; day < 27; day++) {
            int due = day % 3 == 2 ? -1 : day / 3 % 8;
            c.same("holderAt(23, " + day + ")", cabinet.holderAt(23, day), due);
        }
        c.same("holderAt(23, 27)", cabinet.holderAt(23, 27), -1);
    }

    private static void due(Checks c) {
        KeyCabinet cabinet = Houses.sized(1, 1, 4);
        c.same("lend(0, 0, 1) on day 0", cabinet.lend(0, 0, 1), 1);
        c.same("lend(1, 0, 99) on day 0", cabinet.lend(1, 0, 99), 99);
        cabinet.pass(99);
        c.same("lend(2, 0, 1) on day 99", cabinet.lend(2, 0, 1), 100);
        c.same("lend(3, 0, 99) on day 99", cabinet.lend(3, 0, 99), 198);
        int[] days = {1, 99, 100, 198};
        for (int copy = 0; copy < 4; copy++) {
            c.same("copy(" + copy + ", 3)", cabinet.copy(copy, 3), days[copy]);
        }
        c.same("overdue()", cabinet.overdue(), 0b0001);
    }

    private static void late(Checks c) {
        KeyCabinet cabinet = Houses.sized(1, 1, 6);
        for (int copy = 0; copy < 6; copy++) {
            cabinet.lend(copy, copy, 3);
        }
        c.same("on the day of the loan", cabinet.giveBack(0), 0);
        cabinet.pass(2);
        c.same("a day before it is due", cabinet.giveBack(1), 0);
        cabinet.pass(1);
        c.same("on the day", cabinet.giveBack(2), 0);
        cabinet.pass(1);
        c.same("a day after", cabinet.giveBack(3), 1);
        cabinet.pass(1);
        c.same("two days after", cabinet.giveBack(4), 2);
        Houses.passTo(cabinet, 9999);
        c.same("on the last day", cabinet.giveBack(5), 9996);
    }

    private static void lateAgain(Checks c) {
        KeyCabinet cabinet = Houses.sized(1, 1, 1);
        cabinet.lend(0, 0, 1);
        cabinet.pass(10);
        c.same("giveBack(0)", cabinet.giveBack(0), 9);
        c.same("lend(0, 1, 5) the same day", cabinet.lend(0, 1, 5), 15);
        c.same("overdue()", cabinet.overdue(), 0);
        c.same("giveBack(0) the same day", cabinet.giveBack(0), 0);
        cabinet.lend(0, 2, 5);
        cabinet.pass(6);
        c.same("overdue() a day after", cabinet.overdue(), 1);
        c.same("giveBack(0) a day after", cabinet.giveBack(0), 1);
        cabinet.lend(0, 3, 1);
        cabinet.pass(5);
        cabinet.lose(0);
        cabinet.find(0);
        cabinet.lend(0, 3, 2);
        c.same("overdue() when it was found and lent", cabinet.overdue(), 0);
        cabinet.pass(4);
        c.same("giveBack(0) when it was found and lent", cabinet.giveBack(0), 2);
    }

    private static void hasPassed(Checks c) {
        for (int days = 1; days <= 99; days++) {
            KeyCabinet cabinet = Houses.sized(1, 1, 2);
            cabinet.lend(1, 0, days);
            c.same("overdue() on day 0, for " + days, cabinet.overdue(), 0);
            cabinet.pass(days);
            c.same("overdue() on the day, for " + days, cabinet.overdue(), 0);
            cabinet.pass(1);
            c.same("overdue() a day later, for " + days, cabinet.overdue(), 0b10);
        }
    }

    /** Each of the four copies is a day late when something happens to it. */
    private static void ifLent(Checks c) {
        KeyCabinet cabinet = Houses.sized(2, 2, 8);
        for (int copy = 1; copy < 8; copy += 2) {
            cabinet.lend(copy, 0, 1);
        }
        cabinet.pass(2);
        c.same("overdue()", cabinet.overdue(), 0b10101010);
        cabinet.giveBack(1);
        c.same("overdue() with one given back", cabinet.overdue(), 0b10101000);
        cabinet.lose(3);
        c.same("overdue() with one lost", cabinet.overdue(), 0b10100000);
        cabinet.find(3);
        c.same("overdue() with one found", cabinet.overdue(), 0b10100000);
        cabinet.lend(1, 0, 1);
        c.same("overdue() with one lent again", cabinet.overdue(), 0b10100000);
        cabinet.replace(1);
        c.same("overdue() with all void", cabinet.overdue(), 0);
        cabinet.pass(9);
        c.same("overdue() later", cabinet.overdue(), 0);
    }

    private static void allOverdue(Checks c) {
        KeyCabinet cabinet = Houses.sized(8, 8, 24);
        int due = 0;
        for (int copy = 0; copy < 24; copy++) {
            cabinet.lend(copy, copy % 8, 1 + copy);
        }
        cabinet.pass(1);
        for (int copy = 0; copy < 24; copy++) {
            c.same("overdue() on day " + (1 + copy), cabinet.overdue(), due);
            due |= 1 << copy;
            cabinet.pass(1);
        }
        c.same("overdue() of all", cabinet.overdue(), 0xffffff);
    }

    /** What happens later on a day counts for this day, and for no day before it. */
    private static void now(Checks c) {
        KeyCabinet cabinet = Houses.sized(1, 1, 2);
        c.same("before it is lent", cabinet.holderAt(0, 0), -1);
        cabinet.lend(0, 0, 9);
        c.same("lent", cabinet.holderAt(0, 0), 0);
        cabinet.giveBack(0);
        c.same("given back", cabinet.holderAt(0, 0), -1);
        cabinet.lend(0, 7, 9);
        c.same("lent again", cabinet.holderAt(0, 0), 7);
        cabinet.pass(1);
        c.same("the day after", cabinet.holderAt(0, 1), 7);
        cabinet.giveBack(0);
        c.same("given back the day after", cabinet.holderAt(0, 1), -1);
        c.same("the day before", cabinet.holderAt(0, 0), 7);
        cabinet.lend(0, 3, 9);
        c.same("lent the day after", cabinet.holderAt(0, 1), 3);
        c.same("the day before then", cabinet.holderAt(0, 0), 7);
        c.same("the other copy", cabinet.holderAt(1, 1), -1);
    }

    private static void givenAndLent(Checks c) {
        KeyCabinet cabinet = Houses.sized(1, 1, 1);
        cabinet.lend(0, 1, 9);
        cabinet.pass(3);
        cabinet.giveBack(0);
        cabinet.lend(0, 2, 9);
        cabinet.giveBack(0);
        cabinet.lend(0, 3, 9);
        cabinet.pass(2);
        cabinet.giveBack(0);
        cabinet.lend(0, 4, 9);
        cabinet.giveBack(0);
        cabinet.pass(1);
        holders(c, cabinet, 0, 1, 1, 1, 3, 3, -1, -1);
    }

    private static void foundAndLent(Checks c) {
        KeyCabinet cabinet = Houses.sized(1, 1, 1);
        cabinet.lend(0, 1, 9);
        cabinet.lose(0);
        cabinet.find(0);
        cabinet.lend(0, 2, 9);
        cabinet.pass(2);
        cabinet.lose(0);
        cabinet.find(0);
        cabinet.lend(0, 3, 9);
        cabinet.pass(1);
        cabinet.lose(0);
        cabinet.pass(1);
        cabinet.find(0);
        cabinet.lend(0, 0, 9);
        cabinet.lose(0);
        cabinet.pass(1);
        holders(c, cabinet, 0, 2, 2, 3, -1, -1, -1);
    }

    private static void madeVoid(Checks c) {
        KeyCabinet cabinet = Houses.sized(1, 1, 3);
        cabinet.lend(0, 1, 9);
        cabinet.pass(1);
        cabinet.giveBack(0);
        cabinet.lend(0, 2, 9);
        cabinet.lend(2, 6, 9);
        cabinet.pass(1);
        cabinet.lend(1, 5, 9);
        cabinet.replace(0);
        cabinet.pass(1);
        holders(c, cabinet, 0, 1, 2, -1, -1);
        holders(c, cabinet, 1, -1, -1, -1, -1);
        holders(c, cabinet, 2, -1, 6, -1, -1);
        int copy = cabinet.cut(0);
        cabinet.lend(copy, 4, 1);
        holders(c, cabinet, copy, -1, -1, -1, 4);
    }

    private static void allOnOneDay(Checks c) {
        KeyCabinet cabinet = Houses.sized(1, 1, 2);
        cabinet.pass(1);
        Houses.wear(cabinet, 0, 8);
        cabinet.lend(0, 5, 1);
        Houses.wear(cabinet, 1, 9);
        c.same("holderAt(0, 1)", cabinet.holderAt(0, 1), 5);
        c.same("holderAt(1, 1)", cabinet.holderAt(1, 1), -1);
        cabinet.pass(1);
        holders(c, cabinet, 0, -1, 5, 5);
        holders(c, cabinet, 1, -1, -1, -1);
        cabinet.giveBack(0);
        holders(c, cabinet, 0, -1, 5, -1);
    }

    private static void notLent(Checks c) {
        KeyCabinet cabinet = Houses.sized(1, 1, 1);
        holders(c, cabinet, 0, -1);
        cabinet.pass(2);
        int copy = cabinet.cut(0);
        holders(c, cabinet, copy, -1, -1, -1);
        cabinet.lend(copy, 0, 1);
        holders(c, cabinet, copy, -1, -1, 0);
        holders(c, cabinet, 0, -1, -1, -1);
        cabinet.pass(1);
        cabinet.giveBack(copy);
        cabinet.pass(2);
        cabinet.lend(copy, 0, 1);
        holders(c, cabinet, copy, -1, -1, 0, -1, -1, 0);
    }

    private static void overdueAndLost(Checks c) {
        KeyCabinet cabinet = Houses.sized(1, 1, 1);
        cabinet.lend(0, 6, 1);
        cabinet.pass(4);
        holders(c, cabinet, 0, 6, 6, 6, 6, 6);
        cabinet.lose(0);
        holders(c, cabinet, 0, 6, 6, 6, 6, -1);
        cabinet.pass(2);
        cabinet.find(0);
        holders(c, cabinet, 0, 6, 6, 6, 6, -1, -1, -1);
    }

    /** The holders of the days from day 0 to today. */
    private static void holders(Checks c, KeyCabinet cabinet, int copy, int... due) {
        c.same("today()", cabinet.today(), due.length - 1);
        for (int day = 0; day < due.length; day++) {
            c.same("holderAt(" + copy + ", " + day + ")", cabinet.holderAt(copy, day), due[day]);
        }
    }
}
