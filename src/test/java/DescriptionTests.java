/** The sentences of 'Description' on keys, doors and pins that the promises rest on. */
final class DescriptionTests {
    private DescriptionTests() {
    }

    static void addTo(Checks checks) {
        checks.test("'5 digits .. the first digit being the highest one'", DescriptionTests::digits);
        checks.test("'the digits that the keys of its rights have there'", DescriptionTests::pins);
        checks.test("'if each of its digits is among the pins'", DescriptionTests::eachDigit);
        checks.test("'so it opens each door of whose rights it is'", DescriptionTests::byRight);
        checks.test("'it strays at a door ..'", DescriptionTests::strays);
        checks.test("'some keys open more doors than they should': in all answers",
                DescriptionTests::openedByStraying);
        checks.test("'the pins change with' rights", DescriptionTests::pinsWithRights);
        checks.test("the work is of 'pins that came in or went out'", DescriptionTests::work);
        checks.test("'for a new door, all its pins come in'", DescriptionTests::workOfNewDoor);
        checks.test("promise 13: each of the numbers of codes", DescriptionTests::codes);
        checks.test("promise 14: 'and at least one that b does not open'", DescriptionTests::above);
        checks.test("promises 20, 21: the doors of a lost copy", DescriptionTests::lost);
        checks.test("promise 28: doors of copies 'lent to this person'", DescriptionTests::reach);
        checks.test("promises 28, 29, 31: two copies of a key", DescriptionTests::twoOfAKey);
        checks.test("promise 31: doors open to some person, or at risk", DescriptionTests::exposed);
    }

    /** All 1024 codes, eight at a time, each with a door of its own. */
    private static void digits(Checks c) {
        int[] weights = {256, 64, 16, 4, 1};
        for (int first = 0; first < 1024; first += 8) {
            KeyCabinet cabinet = new KeyCabinet();
            for (int key = 0; key < 8; key++) {
                cabinet.addKey(first + key);
                cabinet.addDoor(1 << key);
            }
            for (int key = 0; key < 8; key++) {
                int code = first + key;
                c.same("code(" + key + ")", cabinet.code(key), code);
                for (int position = 0; position < 5; position++) {
                    int digit = code / weights[position] % 4;
                    c.same("pins of " + code, cabinet.pins(key, position), 1 << digit);
                }
            }
        }
    }

    private static void pins(Checks c) {
        KeyCabinet cabinet = Houses.withKeys("01230", "12301", "23012", "30123", "01231");
        cabinet.addDoor(0b01111);
        cabinet.addDoor(0b00110);
        cabinet.addDoor(0b10001);
        int[] two = {2 + 4, 4 + 8, 8 + 1, 1 + 2, 2 + 4};
        int[] nearlyOne = {1, 2, 4, 8, 1 + 2};
        for (int position = 0; position < 5; position++) {
            c.same("pins(0, " + position + ")", cabinet.pins(0, position), 15);
            c.same("pins(1, " + position + ")", cabinet.pins(1, position), two[position]);
            c.same("pins(2, " + position + ")", cabinet.pins(2, position), nearlyOne[position]);
        }
    }

    /** Keys that lack one pin, at each of the positions. */
    private static void eachDigit(Checks c) {
        KeyCabinet cabinet = Houses.withKeys("00000", "11111");
        cabinet.addDoor(0b11);
        String[] lacking = {"21010", "03101", "10210", "01031", "11102"};
        for (int n = 0; n < 5; n++) {
            c.same("addKey", cabinet.addKey(Houses.number(lacking[n])), 2 + n);
            c.same(lacking[n] + " opens it", cabinet.opens(2 + n, 0), false);
        }
        c.same("addKey", cabinet.addKey(Houses.number("01001")), 7);
        c.same("01001 opens it", cabinet.opens(7, 0), true);
        c.same("openers(0)", cabinet.openers(0), 0b10000011);
        c.same("codes(0)", cabinet.codes(0), 32);
    }

    private static void byRight(Checks c) {
        for (int rights = 0; rights < 256; rights++) {
            KeyCabinet cabinet = Houses.sized(8, 0, 0);
            cabinet.addDoor(rights);
            c.same("rights " + rights + " open it", cabinet.openers(0) & rights, rights);
        }
    }

    private static void strays(Checks c) {
        KeyCabinet cabinet = Houses.withKeys(
                "00000", "11111", "22222", "33333", "01230", "12301", "23012", "30123");
        for (int door = 0; door < 8; door++) {
            cabinet.addDoor(0b00001111);
            c.same("strays() with " + (door + 1) + " doors", cabinet.strays(), 4 * (door + 1));
        }
        cabinet.setRights(7, 0b11111111);
        c.same("strays() when all have the right", cabinet.strays(), 28);
        cabinet.setRights(0, 0b11110000);
        c.same("strays() when the others have it", cabinet.strays(), 28);
        cabinet.setRights(1, 0b00000111);
        c.same("strays() when none fits", cabinet.strays(), 24);
    }

    /** Key 2 has the right to no door, and strays at doors 0 and 1; key 3 opens none. */
    private static void openedByStraying(Checks c) {
        KeyCabinet cabinet = Houses.withKeys("00100", "00010", "00110", "33333");
        cabinet.addDoor(0b0011);
        cabinet.addDoor(0b0011);
        cabinet.addDoor(0b0001);
        Houses.cutAll(cabinet, 2, 2, 3);
        c.same("strays()", cabinet.strays(), 2);
        c.same("doors(2)", cabinet.doors(2), 0b011);
        c.same("isAbove(2, 3)", cabinet.isAbove(2, 3), true);
        c.same("isAbove(0, 2)", cabinet.isAbove(0, 2), true);
        c.same("isAbove(1, 2), the same doors", cabinet.isAbove(1, 2), false);
        c.same("suggest(5, 3)", cabinet.suggest(5, 0b011), 0b001);
        cabinet.lend(0, 5, 1);
        c.same("reach(5)", cabinet.reach(5), 0b011);
        c.same("exposure() of one lent", cabinet.exposure(), 2.0 / 3.0);
        c.same("lose(0)", cabinet.lose(0), 0b011);
        c.same("lose(1)", cabinet.lose(1), 0b011);
        c.same("risk()", cabinet.risk(), 0b011);
        c.same("exposure() of lost ones", cabinet.exposure(), 2.0 / 3.0);
        c.same("find(0)", cabinet.find(0), 0b011);
        cabinet.setRights(1, 0b0001);
        c.same("risk() when it strays there no more", cabinet.risk(), 0b001);
        c.same("find(1)", cabinet.find(1), 0);
    }

    private static void pinsWithRights(Checks c) {
        KeyCabinet cabinet = Houses.withKeys("00000", "01230");
        cabinet.addDoor(0b01);
        cabinet.addDoor(0b01);
        cabinet.setRights(0, 0b11);
        int[] both = {1, 3, 5, 9, 1};
        for (int position = 0; position < 5; position++) {
            c.same("pins(0, " + position + ")", cabinet.pins(0, position), both[position]);
            c.same("pins of the other door", cabinet.pins(1, position), 1);
        }
        cabinet.setRights(0, 0b10);
        int[] one = {1, 2, 4, 8, 1};
        for (int position = 0; position < 5; position++) {
            c.same("pins(0, " + position + ") then", cabinet.pins(0, position), one[position]);
        }
        c.same("doors(0)", cabinet.doors(0), 0b10);
    }

    /** 00000 and 01230 differ in three digits. */
    private static void work(Checks c) {
        KeyCabinet cabinet = Houses.withKeys("00000", "01230", "00003");
        cabinet.addDoor(0b001);
        c.same("a new door", cabinet.work(), 5);
        cabinet.setRights(0, 0b011);
        c.same("three pins in", cabinet.work(), 8);
        cabinet.setRights(0, 0b001);
        c.same("three pins out", cabinet.work(), 11);
        cabinet.setRights(0, 0b010);
        c.same("three in and three out", cabinet.work(), 17);
        cabinet.setRights(0, 0b010);
        c.same("the same rights", cabinet.work(), 17);
        cabinet.setRights(0, 0b000);
        c.same("all out", cabinet.work(), 22);
        cabinet.setRights(0, 0b111);
        c.same("all in", cabinet.work(), 31);
        cabinet.addDoor(0b001);
        c.same("another door", cabinet.work(), 36);
        cabinet.replace(1);
        c.same("pins of a code that went", cabinet.work() > 36, true);
        cabinet.cut(0);
        cabinet.lend(0, 0, 1);
        cabinet.pass(1);
        int before = cabinet.work();
        cabinet.lose(0);
        cabinet.addKey(Houses.number("33333"));
        c.same("no pins for copies and keys", cabinet.work(), before);
    }

    private static void workOfNewDoor(Checks c) {
        KeyCabinet cabinet = Houses.withKeys("00000", "11111", "22222", "33333", "01230");
        int[] sets = {0, 0b00001, 0b00011, 0b00111, 0b01111, 0b11111, 0b10001, 0b10000};
        int[] pins = {0, 5, 10, 15, 20, 20, 8, 5};
        int due = 0;
        for (int door = 0; door < 8; door++) {
            cabinet.addDoor(sets[door]);
            due += pins[door];
            c.same("work() with " + (door + 1) + " doors", cabinet.work(), due);
        }
    }

    private static void codes(Checks c) {
        KeyCabinet cabinet = Houses.withKeys("00000", "10000", "21000", "32100", "03210", "01321");
        int[] due = {1, 2, 6, 24, 96, 384};
        for (int door = 0; door < 6; door++) {
            cabinet.addDoor((2 << door) - 1);
            c.same("codes(" + door + ")", cabinet.codes(door), due[door]);
        }
        cabinet.addDoor(0);
        c.same("codes of a door without rights", cabinet.codes(6), 0);
        KeyCabinet full = Houses.sized(8, 0, 0);
        full.addDoor(0b11111111);
        c.same("openers(0) of 8 keys", full.openers(0), 255);
        c.same("codes(0), those of the 8 keys", full.codes(0), 8);
    }

    private static void above(Checks c) {
        KeyCabinet cabinet = Houses.withDoors(0b0011, 0b0111, 0b0010, 0b0100);
        c.same("more doors", cabinet.isAbove(1, 0), true);
        c.same("fewer doors", cabinet.isAbove(0, 1), false);
        c.same("the same key", cabinet.isAbove(1, 1), false);
        c.same("as many, but others", cabinet.isAbove(2, 0), false);
        c.same("more, but not all", cabinet.isAbove(1, 2), false);
        c.same("none against none", cabinet.isAbove(3, 3), false);
        c.same("some against none", cabinet.isAbove(2, 3), true);
        c.same("none against some", cabinet.isAbove(3, 2), false);
        cabinet.setRights(2, 0);
        c.same("the same doors", cabinet.isAbove(1, 0), false);
        c.same("the same doors, turned", cabinet.isAbove(0, 1), false);
    }

    /** Keys 0 and 1 open door 1; the doors are those of the day on which it is asked. */
    private static void lost(Checks c) {
        KeyCabinet cabinet = Houses.withDoors(0b0001, 0b0011, 0b0010, 0b0100);
        Houses.cutAll(cabinet, 0, 1, 2, 0);
        c.same("lose(0)", cabinet.lose(0), 0b0011);
        c.same("lose(1)", cabinet.lose(1), 0b0110);
        c.same("lose(3), of key 0 too", cabinet.lose(3), 0b0011);
        c.same("find(0), its key lost still", cabinet.find(0), 0b0111);
        c.same("find(3)", cabinet.find(3), 0b0110);
        cabinet.setRights(3, 0b0110);
        c.same("risk() after setRights", cabinet.risk(), 0b1110);
        c.same("lose(2) after setRights", cabinet.lose(2), 0b1000);
        c.same("find(1)", cabinet.find(1), 0b1000);
        c.same("find(2), the last one", cabinet.find(2), 0);
        c.same("copy(2, 1)", cabinet.copy(2, 1), 0);
        c.same("lend(2, 0, 1)", cabinet.lend(2, 0, 1), 1);
        c.same("lose(2) when it is lent", cabinet.lose(2), 0b1000);
    }

    private static void reach(Checks c) {
        KeyCabinet cabinet = Houses.sized(8, 8, 8);
        for (int copy = 0; copy < 8; copy++) {
            cabinet.lend(copy, 7 - copy, 1);
        }
        for (int person = 0; person < 8; person++) {
            c.same("reach(" + person + ")", cabinet.reach(person), 128 >> person);
        }
        cabinet.giveBack(0);
        c.same("reach(7) when it is given back", cabinet.reach(7), 0);
        cabinet.lose(1);
        c.same("reach(6) when it is lost", cabinet.reach(6), 0);
        cabinet.replace(2);
        c.same("reach(5) when it is void", cabinet.reach(5), 0);
        cabinet.lend(0, 4, 1);
        c.same("reach(4) with two", cabinet.reach(4), 0b1001);
        cabinet.setRights(7, 0b1000);
        c.same("reach(4) after setRights", cabinet.reach(4), 0b10001001);
    }

    private static void twoOfAKey(Checks c) {
        KeyCabinet cabinet = Houses.sized(2, 2, 6);
        cabinet.lend(1, 3, 1);
        cabinet.lend(3, 3, 1);
        c.same("reach(3)", cabinet.reach(3), 0b10);
        c.same("exposure()", cabinet.exposure(), 0.5);
        cabinet.giveBack(1);
        c.same("reach(3) with one given back", cabinet.reach(3), 0b10);
        cabinet.lose(0);
        cabinet.lose(2);
        c.same("risk()", cabinet.risk(), 0b01);
        c.same("exposure() with two lost", cabinet.exposure(), 1.0);
        c.same("find(0)", cabinet.find(0), 0b01);
        c.same("risk() with one found", cabinet.risk(), 0b01);
        c.same("lose(3)", cabinet.lose(3), 0b10);
        c.same("reach(3) with both gone", cabinet.reach(3), 0);
    }

    private static void exposed(Checks c) {
        KeyCabinet cabinet = Houses.sized(7, 7, 14);
        c.same("all in the cabinet", cabinet.exposure(), 0.0);
        cabinet.lend(0, 0, 1);
        c.same("one lent to person 0", cabinet.exposure(), 1.0 / 7.0);
        cabinet.lend(1, 7, 1);
        c.same("one lent to person 7", cabinet.exposure(), 2.0 / 7.0);
        cabinet.lose(2);
        c.same("one lost", cabinet.exposure(), 3.0 / 7.0);
        cabinet.lend(7, 3, 1);
        c.same("a door that two can open", cabinet.exposure(), 3.0 / 7.0);
        cabinet.lose(8);
        c.same("a door at risk that one can open", cabinet.exposure(), 3.0 / 7.0);
        cabinet.replace(2);
        c.same("a lost one void", cabinet.exposure(), 2.0 / 7.0);
        cabinet.replace(1);
        c.same("a lent and a lost one void", cabinet.exposure(), 1.0 / 7.0);
        for (int copy = 3; copy < 7; copy++) {
            cabinet.lend(copy, 5, 1);
        }
        c.same("five doors", cabinet.exposure(), 5.0 / 7.0);
        cabinet.cut(1);
        cabinet.cut(2);
        cabinet.lend(14, 0, 1);
        cabinet.lose(15);
        c.same("all doors", cabinet.exposure(), 1.0);
    }
}
