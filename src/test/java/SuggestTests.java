/** Promise 30: suggest. */
final class SuggestTests {
    private static final Class<IllegalArgumentException> BAD = IllegalArgumentException.class;
    private static final Class<IndexOutOfBoundsException> INDEX = IndexOutOfBoundsException.class;

    private SuggestTests() {
    }

    static void addTo(Checks checks) {
        checks.test("promise 30: suggest", SuggestTests::suggest);
        checks.test("promise 30: suggest takes the fewest copies", SuggestTests::suggestCopies);
        checks.test("promise 30: 'as few as can be', where the widest is no help",
                SuggestTests::notTheWidest);
        checks.test("promise 30: suggest takes the fewest doors", SuggestTests::suggestDoors);
        checks.test("promise 30: suggest counts the doors in all", SuggestTests::suggestInAll);
        checks.test("promise 30: 'the fewest doors in all' of two copies", SuggestTests::twoCopies);
        checks.test("promise 30: a door that two of the copies open", SuggestTests::sharedDoor);
        checks.test("promise 30: suggest takes the smallest number", SuggestTests::suggestNumber);
        checks.test("promise 30: 'the smallest number', not the first copy",
                SuggestTests::numberOfSet);
        checks.test("promise 30: 'copies in the cabinet'", SuggestTests::inCabinet);
        checks.test("promise 30: 'lent less than 9 times'", SuggestTests::lessThanNine);
        checks.test("promise 30: suggest takes copies to be had", SuggestTests::suggestHad);
        checks.test("promise 30: 'this person can open all these doors then'",
                SuggestTests::thisPerson);
        checks.test("promise 30: doors that a key strays at", SuggestTests::strays);
        checks.test("promise 30: '0 if none is needed'", SuggestTests::noneNeeded);
        checks.test("promise 30: '-1 if there is none'", SuggestTests::none);
        checks.test("promise 30: the last of 24 copies", SuggestTests::lastCopy);
    }

    private static void suggest(Checks c) {
        KeyCabinet cabinet = Houses.withDoors(0b0001, 0b0010, 0b0100);
        Houses.cutAll(cabinet, 1, 0);
        c.same("suggest(0, 1)", cabinet.suggest(0, 0b001), 0b10);
        c.same("suggest(0, 3)", cabinet.suggest(0, 0b011), 0b11);
        c.same("suggest(0, 4)", cabinet.suggest(0, 0b100), -1);
        c.same("suggest(0, 0)", cabinet.suggest(0, 0), 0);
        cabinet.lend(0, 7, 1);
        c.same("suggest(7, 2)", cabinet.suggest(7, 0b010), 0);
        c.same("suggest(7, 3)", cabinet.suggest(7, 0b011), 0b10);
        c.same("suggest(0, 2)", cabinet.suggest(0, 0b010), -1);
        c.refused(cabinet, "suggest(8, 1)", INDEX, () -> cabinet.suggest(8, 1));
        c.refused(cabinet, "suggest(-1, 1)", INDEX, () -> cabinet.suggest(-1, 1));
        c.refused(cabinet, "suggest(8, 8)", INDEX, () -> cabinet.suggest(8, 8));
        c.refused(cabinet, "suggest(0, 8)", BAD, () -> cabinet.suggest(0, 8));
        c.refused(cabinet, "suggest(0, -1)", BAD, () -> cabinet.suggest(0, -1));
    }

    /** One copy that opens five doors goes before two that open two. */
    private static void suggestCopies(Checks c) {
        KeyCabinet cabinet = Houses.withDoors(0b0101, 0b0110, 0b0100, 0b0100, 0b0100);
        Houses.cutAll(cabinet, 0, 1, 2);
        c.same("suggest(0, 3)", cabinet.suggest(0, 0b00011), 0b100);
        c.same("suggest(0, 1)", cabinet.suggest(0, 0b00001), 0b001);
    }

    private static void suggestDoors(Checks c) {
        KeyCabinet cabinet = Houses.withDoors(0b0111, 0b0101, 0b0001);
        Houses.cutAll(cabinet, 0, 2, 1);
        c.same("suggest(0, 1)", cabinet.suggest(0, 0b001), 0b100);
        c.same("suggest(0, 2)", cabinet.suggest(0, 0b010), 0b010);
    }

    /** Person 3 has doors 1 and 2 already, so that key 1 brings less than key 2 does. */
    private static void suggestInAll(Checks c) {
        KeyCabinet cabinet = Houses.withDoors(0b0110, 0b1010, 0b1010, 0b0100);
        Houses.cutAll(cabinet, 3, 2, 1);
        cabinet.lend(0, 3, 1);
        c.same("suggest(3, 1)", cabinet.suggest(3, 0b0001), 0b100);
        c.same("suggest(4, 1)", cabinet.suggest(4, 0b0001), 0b010);
    }

    private static void suggestNumber(Checks c) {
        KeyCabinet cabinet = Houses.withDoors(0b0011, 0b1100);
        Houses.cutAll(cabinet, 1, 3, 2, 0, 1, 2);
        c.same("suggest(0, 1)", cabinet.suggest(0, 0b01), 0b000001);
        c.same("suggest(0, 3)", cabinet.suggest(0, 0b11), 0b000011);
        cabinet.lend(0, 5, 1);
        c.same("suggest(0, 1) without copy 0", cabinet.suggest(0, 0b01), 0b001000);
        cabinet.lose(1);
        c.same("suggest(0, 3) without copies 0, 1", cabinet.suggest(0, 0b11), 0b001100);
    }

    private static void suggestHad(Checks c) {
        KeyCabinet cabinet = Houses.withDoors(0b0001);
        Houses.cutAll(cabinet, 0, 0, 0);
        for (int time = 0; time < 9; time++) {
            cabinet.lend(0, 1, 1);
            cabinet.giveBack(0);
        }
        c.same("suggest(0, 1) when copy 0 was lent 9 times", cabinet.suggest(0, 1), 0b010);
        cabinet.lose(1);
        c.same("suggest(0, 1) when copy 1 is lost", cabinet.suggest(0, 1), 0b100);
        cabinet.replace(0);
        c.same("suggest(0, 1) when all are void", cabinet.suggest(0, 1), -1);
        cabinet.cut(0);
        c.same("suggest(0, 1) with a new copy", cabinet.suggest(0, 1), 0b1000);
    }

    /** Key 2 opens four of the six doors, but then two more copies would be needed. */
    private static void notTheWidest(Checks c) {
        KeyCabinet cabinet = Houses.withDoors(0b101, 0b101, 0b001, 0b110, 0b110, 0b010);
        Houses.cutAll(cabinet, 2, 0, 1);
        c.same("suggest(0, 63)", cabinet.suggest(0, 0b111111), 0b110);
        c.same("suggest(0, 27)", cabinet.suggest(0, 0b011011), 0b001);
    }

    /** Copies 1 and 2 open two doors each; door 2, which copy 0 opens already, counts once. */
    private static void twoCopies(Checks c) {
        KeyCabinet cabinet = Houses.withDoors(0b0001, 0b0110, 0b0011, 0b0100);
        Houses.cutAll(cabinet, 0, 2, 1);
        c.same("suggest(0, 3)", cabinet.suggest(0, 0b0011), 0b101);
        c.same("suggest(0, 2)", cabinet.suggest(0, 0b0010), 0b010);
    }

    /** Door 2 is open by each of the two copies, which are needed for doors 0 and 1. */
    private static void sharedDoor(Checks c) {
        KeyCabinet cabinet = Houses.withDoors(0b001, 0b010, 0b011);
        Houses.cutAll(cabinet, 0, 1, 0);
        c.same("suggest(0, 7)", cabinet.suggest(0, 0b111), 0b011);
        c.same("suggest(0, 3)", cabinet.suggest(0, 0b011), 0b011);
        cabinet.lend(0, 4, 1);
        c.same("suggest(4, 7), who has one", cabinet.suggest(4, 0b111), 0b010);
        cabinet.lend(2, 4, 1);
        c.same("suggest(4, 7), who has one twice", cabinet.suggest(4, 0b111), 0b010);
    }

    /** Keys 0 and 3 open all doors, and keys 1 and 2 do; no other two. */
    private static void numberOfSet(Checks c) {
        KeyCabinet cabinet = Houses.withDoors(0b0011, 0b0101, 0b1010, 0b1100);
        Houses.cutAll(cabinet, 0, 1, 2, 3);
        c.same("suggest(0, 15)", cabinet.suggest(0, 0b1111), 0b0110);
        KeyCabinet turned = Houses.withDoors(0b0011, 0b0101, 0b1010, 0b1100);
        Houses.cutAll(turned, 1, 0, 3, 2);
        c.same("suggest(0, 15) with other copies", turned.suggest(0, 0b1111), 0b0110);
        KeyCabinet apart = Houses.withDoors(0b0011, 0b0101, 0b1010, 0b1100);
        Houses.cutAll(apart, 1, 2, 0, 3);
        c.same("suggest(0, 15) with copies apart", apart.suggest(0, 0b1111), 0b0011);
    }

    private static void inCabinet(Checks c) {
        KeyCabinet cabinet = Houses.withDoors(0b0001);
        Houses.cutAll(cabinet, 0);
        cabinet.replace(0);
        c.same("with a void one", cabinet.suggest(0, 1), -1);
        cabinet.cut(0);
        c.same("with one in the cabinet", cabinet.suggest(0, 1), 0b10);
        cabinet.lend(1, 5, 1);
        c.same("with one lent to another", cabinet.suggest(0, 1), -1);
        cabinet.pass(9);
        c.same("with an overdue one", cabinet.suggest(0, 1), -1);
        cabinet.lose(1);
        c.same("with a lost one", cabinet.suggest(0, 1), -1);
        c.same("with a lost one, who had it", cabinet.suggest(5, 1), -1);
        cabinet.find(1);
        c.same("with a found one", cabinet.suggest(0, 1), 0b10);
        cabinet.lend(1, 5, 1);
        cabinet.giveBack(1);
        c.same("with one given back", cabinet.suggest(5, 1), 0b10);
    }

    private static void lessThanNine(Checks c) {
        KeyCabinet cabinet = Houses.withDoors(0b0001);
        Houses.cutAll(cabinet, 0);
        Houses.wear(cabinet, 0, 8);
        c.same("lent 8 times", cabinet.suggest(0, 1), 0b01);
        Houses.wear(cabinet, 0, 1);
        c.same("lent 9 times", cabinet.suggest(0, 1), -1);
        cabinet.cut(0);
        c.same("lent 9 times, with another one", cabinet.suggest(0, 1), 0b10);
        cabinet.lose(0);
        cabinet.find(0);
        c.same("lent 9 times, and found", cabinet.suggest(0, 1), 0b10);
        Houses.wear(cabinet, 1, 8);
        cabinet.lend(1, 4, 1);
        c.same("lent for the 9th time, to this person", cabinet.suggest(4, 1), 0);
        c.same("lent for the 9th time, to another", cabinet.suggest(0, 1), -1);
    }

    private static void thisPerson(Checks c) {
        KeyCabinet cabinet = Houses.withDoors(0b0001, 0b0010, 0b0100);
        Houses.cutAll(cabinet, 0, 1, 2, 0);
        cabinet.lend(0, 3, 1);
        c.same("suggest(3, 7), who has one", cabinet.suggest(3, 0b111), 0b0110);
        c.same("suggest(2, 7), who has none", cabinet.suggest(2, 0b111), 0b1110);
        cabinet.lend(1, 2, 1);
        c.same("suggest(3, 2), which another has", cabinet.suggest(3, 0b010), -1);
        cabinet.lose(2);
        c.same("suggest(3, 4), which is at risk", cabinet.suggest(3, 0b100), -1);
        cabinet.giveBack(0);
        c.same("suggest(3, 1) after giveBack", cabinet.suggest(3, 0b001), 0b0001);
    }

    /** Key 2 strays at door 0, and opens door 1 by right. */
    private static void strays(Checks c) {
        KeyCabinet cabinet = Houses.withStray();
        Houses.cutAll(cabinet, 2);
        c.same("suggest(0, 1)", cabinet.suggest(0, 0b001), 0b1);
        c.same("suggest(0, 3)", cabinet.suggest(0, 0b011), 0b1);
        Houses.cutAll(cabinet, 1);
        c.same("suggest(0, 1) with one that does not stray", cabinet.suggest(0, 0b001), 0b10);
        cabinet.lend(0, 6, 1);
        c.same("suggest(6, 1), who has the stray", cabinet.suggest(6, 0b001), 0);
    }

    private static void noneNeeded(Checks c) {
        c.same("of a new object", new KeyCabinet().suggest(0, 0), 0);
        KeyCabinet cabinet = Houses.withDoors(0b0001, 0b0010);
        c.same("no doors, no copies", cabinet.suggest(7, 0), 0);
        Houses.cutAll(cabinet, 0, 1, 0);
        c.same("no doors, with copies", cabinet.suggest(7, 0), 0);
        cabinet.lend(0, 7, 1);
        c.same("no doors, with a copy lent", cabinet.suggest(7, 0), 0);
        c.same("a door that is open already", cabinet.suggest(7, 1), 0);
        cabinet.lend(1, 7, 1);
        c.same("two doors that are open already", cabinet.suggest(7, 3), 0);
        cabinet.pass(5);
        c.same("two doors, the copies overdue", cabinet.suggest(7, 3), 0);
    }

    private static void none(Checks c) {
        KeyCabinet cabinet = Houses.withDoors(0b0001, 0b0010, 0b0000);
        Houses.cutAll(cabinet, 0, 0);
        c.same("a door with a copy", cabinet.suggest(0, 0b001), 0b01);
        c.same("a door without a copy", cabinet.suggest(0, 0b010), -1);
        c.same("a door without pins", cabinet.suggest(0, 0b100), -1);
        c.same("a door with, and one without", cabinet.suggest(0, 0b011), -1);
        c.same("all doors", cabinet.suggest(0, 0b111), -1);
        cabinet.lend(0, 0, 1);
        c.same("a door that is open, and one without", cabinet.suggest(0, 0b011), -1);
    }

    private static void lastCopy(Checks c) {
        KeyCabinet cabinet = Houses.sized(3, 3, 24);
        c.same("suggest(0, 4)", cabinet.suggest(0, 4), 1 << 2);
        for (int copy = 0; copy < 21; copy++) {
            cabinet.lend(copy, 1, 1);
        }
        c.same("suggest(0, 4) of the last ones", cabinet.suggest(0, 4), 1 << 23);
        c.same("suggest(0, 7) of the last ones", cabinet.suggest(0, 7), 7 << 21);
        cabinet.lend(23, 1, 1);
        c.same("suggest(0, 4) without the last", cabinet.suggest(0, 4), -1);
        c.same("suggest(0, 3) without the last", cabinet.suggest(0, 3), 3 << 21);
        cabinet.giveBack(11);
        c.same("suggest(0, 7) with copy 11", cabinet.suggest(0, 7), 3 << 21 | 1 << 11);
    }
}
