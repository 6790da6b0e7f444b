/** Cabinets that are made by the same calls each time, so that one can be had again and again. */
final class Houses {
    interface House {
        KeyCabinet make();
    }

    private Houses() {
    }

    /** A cabinet with keys of these codes, told by their digits. */
    static KeyCabinet withKeys(String... codes) {
        KeyCabinet cabinet = new KeyCabinet();
        for (String code : codes) {
            cabinet.addKey(number(code));
        }
        return cabinet;
    }

    static int number(String code) {
        return Integer.parseInt(code, 4);
    }

    /** Key 2 (00110) strays at door 0, whose rights are keys 0 and 1. */
    static KeyCabinet withStray() {
        KeyCabinet cabinet = withKeys("00100", "00010", "00110");
        cabinet.addDoor(0b011);
        cabinet.addDoor(0b100);
        cabinet.addDoor(0b000);
        return cabinet;
    }

    /** Keys 00000, 11111, 22222, 33333, none of which strays, and a door for each of these sets. */
    static KeyCabinet withDoors(int... rights) {
        KeyCabinet cabinet = withKeys("00000", "11111", "22222", "33333");
        for (int set : rights) {
            cabinet.addDoor(set);
        }
        return cabinet;
    }

    static void cutAll(KeyCabinet cabinet, int... keys) {
        for (int key : keys) {
            cabinet.cut(key);
        }
    }

    /** Lends a copy and takes it back, so many times. */
    static void wear(KeyCabinet cabinet, int copy, int times) {
        for (int time = 0; time < times; time++) {
            cabinet.lend(copy, time % 8, 1);
            cabinet.giveBack(copy);
        }
    }

    /** So many keys, doors and copies; the codes are 0, 1, 2 .. and each door is for one key. */
    static KeyCabinet sized(int keys, int doors, int copies) {
        KeyCabinet cabinet = new KeyCabinet();
        for (int key = 0; key < keys; key++) {
            cabinet.addKey(key);
        }
        for (int door = 0; door < doors; door++) {
            cabinet.addDoor(keys == 0 ? 0 : 1 << door % keys);
        }
        for (int copy = 0; copy < copies; copy++) {
            cabinet.cut(copy % keys);
        }
        return cabinet;
    }

    /**
     * On day 12, with key 2 straying at door 0 and no other code to be had for it: copy 0 is in the
     * cabinet, 1 is lent, 2 is overdue, 3 is lost, 4 is void, 5 was lent 9 times, 6 and 7 have not
     * been lent.
     */
    static KeyCabinet lived() {
        KeyCabinet cabinet = withStray();
        cabinet.addKey(number("33333"));
        cabinet.addDoor(0b1000);
        cutAll(cabinet, 0, 0, 1, 2, 3, 1);
        cabinet.replace(3);
        cutAll(cabinet, 3, 2);
        wear(cabinet, 5, 9);
        cabinet.lend(0, 4, 7);
        cabinet.lend(3, 6, 2);
        cabinet.pass(5);
        cabinet.giveBack(0);
        cabinet.lend(2, 6, 3);
        cabinet.lose(3);
        cabinet.pass(7);
        cabinet.lend(1, 7, 99);
        return cabinet;
    }

    /** As many keys, doors and copies as there can be, with strays, on day 3. */
    static KeyCabinet full() {
        KeyCabinet cabinet = sized(8, 8, 24);
        for (int door = 0; door < 4; door++) {
            cabinet.setRights(door, 0b11 << door);
        }
        for (int copy = 0; copy < 12; copy++) {
            cabinet.lend(copy, copy % 8, 1 + copy % 4);
        }
        cabinet.pass(3);
        for (int copy = 0; copy < 4; copy++) {
            cabinet.giveBack(copy);
            cabinet.lose(copy + 5);
        }
        return cabinet;
    }

    /** The same as lived, but on a later day. */
    static KeyCabinet livedTo(int day) {
        KeyCabinet cabinet = lived();
        passTo(cabinet, day);
        return cabinet;
    }

    static void passTo(KeyCabinet cabinet, int day) {
        int today = cabinet.today();
        while (today < day) {
            today = cabinet.pass(Math.min(99, day - today));
        }
    }
}
