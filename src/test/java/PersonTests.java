/** Promises 28, 29 and 31: persons and risk; and a full house. */
final class PersonTests {
    private static final Class<IndexOutOfBoundsException> INDEX = IndexOutOfBoundsException.class;

    private PersonTests() {
    }

    static void addTo(Checks checks) {
        checks.test("promise 28: reach", PersonTests::reach);
        checks.test("promise 29: risk", PersonTests::risk);
        checks.test("promise 31: exposure", PersonTests::exposure);
        checks.test("promises 1 to 32: a full house", PersonTests::fullHouse);
    }

    private static void reach(Checks c) {
        KeyCabinet cabinet = Houses.withDoors(0b0001, 0b0010, 0b0011, 0b0100);
        Houses.cutAll(cabinet, 0, 1, 2);
        cabinet.lend(0, 7, 1);
        c.same("reach(7)", cabinet.reach(7), 0b0101);
        cabinet.lend(1, 7, 1);
        cabinet.lend(2, 0, 1);
        c.same("reach(7) with two", cabinet.reach(7), 0b0111);
        c.same("reach(0)", cabinet.reach(0), 0b1000);
        c.same("reach(1)", cabinet.reach(1), 0);
        cabinet.pass(5);
        c.same("reach(7) when overdue", cabinet.reach(7), 0b0111);
        cabinet.giveBack(0);
        c.same("reach(7) after giveBack(0)", cabinet.reach(7), 0b0110);
        cabinet.setRights(3, 0b0110);
        c.same("reach(7) after setRights", cabinet.reach(7), 0b1110);
        c.refused(cabinet, "reach(8)", INDEX, () -> cabinet.reach(8));
        c.refused(cabinet, "reach(-1)", INDEX, () -> cabinet.reach(-1));
    }

    private static void risk(Checks c) {
        KeyCabinet cabinet = Houses.withDoors(0b0001, 0b0010, 0b0011, 0b0100);
        Houses.cutAll(cabinet, 0, 1, 1);
        cabinet.lend(2, 0, 1);
        c.same("risk()", cabinet.risk(), 0);
        cabinet.lose(0);
        c.same("risk() after lose(0)", cabinet.risk(), 0b0101);
        cabinet.lose(2);
        c.same("risk() after lose(2)", cabinet.risk(), 0b0111);
        cabinet.setRights(3, 0b0110);
        c.same("risk() after setRights", cabinet.risk(), 0b1111);
        cabinet.replace(1);
        c.same("risk() after replace(1)", cabinet.risk(), 0b0101);
        cabinet.find(0);
        c.same("risk() after find(0)", cabinet.risk(), 0);
    }

    private static void exposure(Checks c) {
        KeyCabinet doorless = Houses.withKeys("00000");
        c.same("exposure() without doors", doorless.exposure(), 0.0);
        KeyCabinet one = Houses.withDoors(0b0001);
        one.cut(0);
        one.lose(0);
        c.same("exposure() with one door, at risk", one.exposure(), 1.0);
        KeyCabinet cabinet = Houses.withDoors(0b0001, 0b0110, 0b0010);
        Houses.cutAll(cabinet, 0, 1, 2);
        c.same("exposure()", cabinet.exposure(), 0.0);
        cabinet.lend(0, 0, 1);
        c.same("exposure() with one lent", cabinet.exposure(), 1.0 / 3.0);
        cabinet.lose(2);
        c.same("exposure() with one lost", cabinet.exposure(), 2.0 / 3.0);
        cabinet.lend(1, 7, 1);
        c.same("exposure() with one lent to person 7", cabinet.exposure(), 1.0);
        cabinet.giveBack(0);
        c.same("exposure() after giveBack", cabinet.exposure(), 2.0 / 3.0);
    }

    /** As many keys, doors and copies as there can be: door d is for key d, copy n is of key n % 8. */
    private static void fullHouse(Checks c) {
        KeyCabinet cabinet = new KeyCabinet();
        for (int key = 0; key < 8; key++) {
            cabinet.addKey(key);
            cabinet.addDoor(1 << key);
        }
        for (int copy = 0; copy < 24; copy++) {
            cabinet.cut(copy % 8);
        }
        c.same("strays()", cabinet.strays(), 0);
        c.same("work()", cabinet.work(), 40);
        c.same("openers(7)", cabinet.openers(7), 128);
        c.same("doors(7)", cabinet.doors(7), 128);
        c.same("suggest(7, 255)", cabinet.suggest(7, 255), 255);
        for (int copy = 0; copy < 24; copy++) {
            c.same("lend", cabinet.lend(copy, copy % 8, 1), 1);
        }
        c.same("suggest(7, 255)", cabinet.suggest(7, 255), -1);
        cabinet.pass(2);
        c.same("overdue()", cabinet.overdue(), 0xffffff);
        c.same("reach(7)", cabinet.reach(7), 128);
        c.same("exposure()", cabinet.exposure(), 1.0);
        c.same("lose(23)", cabinet.lose(23), 128);
        c.same("risk()", cabinet.risk(), 128);
        c.same("replace(7)", cabinet.replace(7), Houses.number("00023"));
        c.same("work() after replace(7)", cabinet.work(), 42);
        c.same("overdue() after replace(7)", cabinet.overdue(), 0x7f7f7f);
        c.same("exposure() after replace(7)", cabinet.exposure(), 0.875);
        c.same("copy(23, 1)", cabinet.copy(23, 1), 3);
        c.same("holderAt(23, 1)", cabinet.holderAt(23, 1), 7);
    }
}
