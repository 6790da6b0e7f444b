/** Promises 28 to 32: persons, risk and the checksum. */
final class PersonTests {
    private static final Class<IllegalArgumentException> BAD = IllegalArgumentException.class;
    private static final Class<IndexOutOfBoundsException> INDEX = IndexOutOfBoundsException.class;

    private PersonTests() {
    }

    static void addTo(Checks checks) {
        checks.test("promise 28: reach", PersonTests::reach);
        checks.test("promise 29: risk", PersonTests::risk);
        checks.test("promise 30: suggest", PersonTests::suggest);
        checks.test("promise 30: suggest takes the fewest copies", PersonTests::suggestCopies);
        checks.test("promise 30: suggest takes the fewest doors", PersonTests::suggestDoors);
        checks.test("promise 30: suggest counts the doors in all", PersonTests::suggestInAll);
        checks.test("promise 30: suggest takes the smallest number", PersonTests::suggestNumber);
        checks.test("promise 30: suggest takes copies to be had", PersonTests::suggestHad);
        checks.test("promise 31: exposure", PersonTests::exposure);
        checks.test("promise 32: digest", PersonTests::digest);
        checks.test("promises 1 to 32: a full house", PersonTests::fullHouse);
    }

    /** Keys 00000, 11111, 22222, 33333, and a door for each of these sets of them. */
    private static KeyCabinet withDoors(int... rights) {
        KeyCabinet cabinet = PlanTests.withKeys("00000", "11111", "22222", "33333");
        for (int set : rights) {
            cabinet.addDoor(set);
        }
        return cabinet;
    }

    private static void cutAll(KeyCabinet cabinet, int... keys) {
        for (int key : keys) {
            cabinet.cut(key);
        }
    }

    private static void reach(Checks c) {
        KeyCabinet cabinet = withDoors(0b0001, 0b0010, 0b0011, 0b0100);
        cutAll(cabinet, 0, 1, 2);
        cabinet.lend(0, 7, 1);
        c.same("reach(7)", cabinet.reach(7), 0b0101);
        cabinet.lend(1, 7, 1);
        cabinet.lend(2, 0, 1);
        c.same("reach(7) with two", cabinet.reach(7), 0b0111);
        c.same("reach(0)", cabinet.reach(0), 0b1000);
        c.same("reach(1)", cabinet.reach(1), 0);
        cabinet.pass(5);
        c.same("reach(7) when overdue", cabinet.reach(7), 0b0111);
        cabinet.giveBack(0);
        c.same("reach(7) after giveBack(0)", cabinet.reach(7), 0b0110);
        cabinet.setRights(3, 0b0110);
        c.same("reach(7) after setRights", cabinet.reach(7), 0b1110);
        c.refused(cabinet, "reach(8)", INDEX, () -> cabinet.reach(8));
        c.refused(cabinet, "reach(-1)", INDEX, () -> cabinet.reach(-1));
    }

    private static void risk(Checks c) {
        KeyCabinet cabinet = withDoors(0b0001, 0b0010, 0b0011, 0b0100);
        cutAll(cabinet, 0, 1, 1);
        cabinet.lend(2, 0, 1);
        c.same("risk()", cabinet.risk(), 0);
        cabinet.lose(0);
        c.same("risk() after lose(0)", cabinet.risk(), 0b0101);
        cabinet.lose(2);
        c.same("risk() after lose(2)", cabinet.risk(), 0b0111);
        cabinet.setRights(3, 0b0110);
        c.same("risk() after setRights", cabinet.risk(), 0b1111);
        cabinet.replace(1);
        c.same("risk() after replace(1)", cabinet.risk(), 0b0101);
        cabinet.find(0);
        c.same("risk() after find(0)", cabinet.risk(), 0);
    }

    private static void suggest(Checks c) {
        KeyCabinet cabinet = withDoors(0b0001, 0b0010, 0b0100);
        cutAll(cabinet, 1, 0);
        c.same("suggest(0, 1)", cabinet.suggest(0, 0b001), 0b10);
        c.same("suggest(0, 3)", cabinet.suggest(0, 0b011), 0b11);
        c.same("suggest(0, 4)", cabinet.suggest(0, 0b100), -1);
        c.same("suggest(0, 0)", cabinet.suggest(0, 0), 0);
        cabinet.lend(0, 7, 1);
        c.same("suggest(7, 2)", cabinet.suggest(7, 0b010), 0);
        c.same("suggest(7, 3)", cabinet.suggest(7, 0b011), 0b10);
        c.same("suggest(0, 2)", cabinet.suggest(0, 0b010), -1);
        c.refused(cabinet, "suggest(8, 1)", INDEX, () -> cabinet.suggest(8, 1));
        c.refused(cabinet, "suggest(-1, 1)", INDEX, () -> cabinet.suggest(-1, 1));
        c.refused(cabinet, "suggest(8, 8)", INDEX, () -> cabinet.suggest(8, 8));
        c.refused(cabinet, "suggest(0, 8)", BAD, () -> cabinet.suggest(0, 8));
        c.refused(cabinet, "suggest(0, -1)", BAD, () -> cabinet.suggest(0, -1));
    }

    /** One copy that opens five doors goes before two that open two. */
    private static void suggestCopies(Checks c) {
        KeyCabinet cabinet = withDoors(0b0101, 0b0110, 0b0100, 0b0100, 0b0100);
        cutAll(cabinet, 0, 1, 2);
        c.same("suggest(0, 3)", cabinet.suggest(0, 0b00011), 0b100);
        c.same("suggest(0, 1)", cabinet.suggest(0, 0b00001), 0b001);
    }

    private static void suggestDoors(Checks c) {
        KeyCabinet cabinet = withDoors(0b0111, 0b0101, 0b0001);
        cutAll(cabinet, 0, 2, 1);
        c.same("suggest(0, 1)", cabinet.suggest(0, 0b001), 0b100);
        c.same("suggest(0, 2)", cabinet.suggest(0, 0b010), 0b010);
    }

    /** Person 3 has doors 1 and 2 already, so that key 1 brings less than key 2 does. */
    private static void suggestInAll(Checks c) {
        KeyCabinet cabinet = withDoors(0b0110, 0b1010, 0b1010, 0b0100);
        cutAll(cabinet, 3, 2, 1);
        cabinet.lend(0, 3, 1);
        c.same("suggest(3, 1)", cabinet.suggest(3, 0b0001), 0b100);
        c.same("suggest(4, 1)", cabinet.suggest(4, 0b0001), 0b010);
    }

    private static void suggestNumber(Checks c) {
        KeyCabinet cabinet = withDoors(0b0011, 0b1100);
        cutAll(cabinet, 1, 3, 2, 0, 1, 2);
        c.same("suggest(0, 1)", cabinet.suggest(0, 0b01), 0b000001);
        c.same("suggest(0, 3)", cabinet.suggest(0, 0b11), 0b000011);
        cabinet.lend(0, 5, 1);
        c.same("suggest(0, 1) without copy 0", cabinet.suggest(0, 0b01), 0b001000);
        cabinet.lose(1);
        c.same("suggest(0, 3) without copies 0, 1", cabinet.suggest(0, 0b11), 0b001100);
    }

    private static void suggestHad(Checks c) {
        KeyCabinet cabinet = withDoors(0b0001);
        cutAll(cabinet, 0, 0, 0);
        for (int time = 0; time < 9; time++) {
            cabinet.lend(0, 1, 1);
            cabinet.giveBack(0);
        }
        c.same("suggest(0, 1) when copy 0 was lent 9 times", cabinet.suggest(0, 1), 0b010);
        cabinet.lose(1);
        c.same("suggest(0, 1) when copy 1 is lost", cabinet.suggest(0, 1), 0b100);
        cabinet.replace(0);
        c.same("suggest(0, 1) when all are void", cabinet.suggest(0, 1), -1);
        cabinet.cut(0);
        c.same("suggest(0, 1) with a new copy", cabinet.suggest(0, 1), 0b1000);
    }

    private static void exposure(Checks c) {
        KeyCabinet doorless = PlanTests.withKeys("00000");
        c.same("exposure() without doors", doorless.exposure(), 0.0);
        KeyCabinet one = withDoors(0b0001);
        one.cut(0);
        one.lose(0);
        c.same("exposure() with one door, at risk", one.exposure(), 1.0);
        KeyCabinet cabinet = withDoors(0b0001, 0b0110, 0b0010);
        cutAll(cabinet, 0, 1, 2);
        c.same("exposure()", cabinet.exposure(), 0.0);
        cabinet.lend(0, 0, 1);
        c.same("exposure() with one lent", cabinet.exposure(), 1.0 / 3.0);
        cabinet.lose(2);
        c.same("exposure() with one lost", cabinet.exposure(), 2.0 / 3.0);
        cabinet.lend(1, 7, 1);
        c.same("exposure() with one lent to person 7", cabinet.exposure(), 1.0);
        cabinet.giveBack(0);
        c.same("exposure() after giveBack", cabinet.exposure(), 2.0 / 3.0);
    }

    private static void digest(Checks c) {
        KeyCabinet cabinet = new KeyCabinet();
        c.same("digest() of a new object", cabinet.digest(), sum(0, 0, 0, 0, 0));
        cabinet.addKey(PlanTests.number("01230"));
        cabinet.addKey(7);
        cabinet.addDoor(0b01);
        cabinet.addDoor(0);
        cabinet.cut(1);
        cabinet.cut(0);
        cabinet.pass(3);
        cabinet.lend(1, 6, 4);
        long due = sum(2, 108, 7,
                2, 1, 1, 2, 4, 8, 1, 0, 0, 0, 0, 0, 0,
                5, 3,
                2, 1, 0, -1, -1, 0, 0, 1, 6, 7, 1);
        c.same("digest()", cabinet.digest(), due);
        c.same("digest() again", cabinet.digest(), due);
    }

    /** As many keys, doors and copies as there can be: door d is for key d, copy n is of key n % 8. */
    private static void fullHouse(Checks c) {
        KeyCabinet cabinet = new KeyCabinet();
        for (int key = 0; key < 8; key++) {
            cabinet.addKey(key);
            cabinet.addDoor(1 << key);
        }
        for (int copy = 0; copy < 24; copy++) {
            cabinet.cut(copy % 8);
        }
        c.same("strays()", cabinet.strays(), 0);
        c.same("work()", cabinet.work(), 40);
        c.same("openers(7)", cabinet.openers(7), 128);
        c.same("doors(7)", cabinet.doors(7), 128);
        c.same("suggest(7, 255)", cabinet.suggest(7, 255), 255);
        for (int copy = 0; copy < 24; copy++) {
            c.same("lend", cabinet.lend(copy, copy % 8, 1), 1);
        }
        c.same("suggest(7, 255)", cabinet.suggest(7, 255), -1);
        cabinet.pass(2);
        c.same("overdue()", cabinet.overdue(), 0xffffff);
        c.same("reach(7)", cabinet.reach(7), 128);
        c.same("exposure()", cabinet.exposure(), 1.0);
        c.same("lose(23)", cabinet.lose(23), 128);
        c.same("risk()", cabinet.risk(), 128);
        c.same("replace(7)", cabinet.replace(7), PlanTests.number("00023"));
        c.same("work() after replace(7)", cabinet.work(), 42);
        c.same("overdue() after replace(7)", cabinet.overdue(), 0x7f7f7f);
        c.same("exposure() after replace(7)", cabinet.exposure(), 0.875);
        c.same("copy(23, 1)", cabinet.copy(23, 1), 3);
        c.same("holderAt(23, 1)", cabinet.holderAt(23, 1), 7);
    }

    private static long sum(long... numbers) {
        long d = 173;
        for (long x : numbers) {
            d = d * 31 + x;
        }
        return d;
    }
}
