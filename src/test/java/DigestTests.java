import java.math.BigInteger;
import java.util.ArrayList;
import java.util.List;

/** Promise 32: digest. */
final class DigestTests {
    private DigestTests() {
    }

    static void addTo(Checks checks) {
        checks.test("promise 32: digest", DigestTests::digest);
        checks.test("promise 32: a number for each thing, in order", DigestTests::steps);
        checks.test("promise 32: 'wraps around as a 64-bit integer'", DigestTests::wraps);
    }

    private static void digest(Checks c) {
        KeyCabinet cabinet = new KeyCabinet();
        c.same("digest() of a new object", cabinet.digest(), sum(0, 0, 0, 0, 0));
        cabinet.addKey(Houses.number("01230"));
        cabinet.addKey(7);
        cabinet.addDoor(0b01);
        cabinet.addDoor(0);
        cabinet.cut(1);
        cabinet.cut(0);
        cabinet.pass(3);
        cabinet.lend(1, 6, 4);
        long due = sum(2, 108, 7,
                2, 1, 1, 2, 4, 8, 1, 0, 0, 0, 0, 0, 0,
                5, 3,
                2, 1, 0, -1, -1, 0, 0, 1, 6, 7, 1);
        c.same("digest()", cabinet.digest(), due);
        c.same("digest() again", cabinet.digest(), due);
    }

    private static long sum(long... numbers) {
        long d = 173;
        for (long x : numbers) {
            d = d * 31 + x;
        }
        return d;
    }

    /** What is added, each time, is told by the whole list of numbers once more. */
    private static void steps(Checks c) {
        KeyCabinet cabinet = new KeyCabinet();
        cabinet.addKey(1023);
        c.same("with a key", cabinet.digest(), sum(1, 1023, 0, 0, 0, 0));
        cabinet.addKey(0);
        c.same("with two keys", cabinet.digest(), sum(2, 1023, 0, 0, 0, 0, 0));
        cabinet.addDoor(3);
        c.same("with a door", cabinet.digest(), sum(2, 1023, 0, 1, 3, 9, 9, 9, 9, 9, 10, 0, 0));
        cabinet.setRights(0, 2);
        c.same("with other rights", cabinet.digest(),
                sum(2, 1023, 0, 1, 2, 1, 1, 1, 1, 1, 15, 0, 0));
        cabinet.pass(99);
        c.same("on day 99", cabinet.digest(), sum(2, 1023, 0, 1, 2, 1, 1, 1, 1, 1, 15, 99, 0));
        cabinet.cut(1);
        c.same("with a copy", cabinet.digest(),
                sum(2, 1023, 0, 1, 2, 1, 1, 1, 1, 1, 15, 99, 1, 1, 0, -1, -1, 0));
        cabinet.lend(0, 7, 2);
        c.same("with a lent one", cabinet.digest(),
                sum(2, 1023, 0, 1, 2, 1, 1, 1, 1, 1, 15, 99, 1, 1, 1, 7, 101, 1));
        cabinet.lose(0);
        c.same("with a lost one", cabinet.digest(),
                sum(2, 1023, 0, 1, 2, 1, 1, 1, 1, 1, 15, 99, 1, 1, 2, -1, -1, 1));
        cabinet.replace(1);
        c.same("with a void one", cabinet.digest(),
                sum(2, 1023, 1, 1, 2, 1, 1, 1, 1, 2, 17, 99, 1, 1, 3, -1, -1, 1));
    }

    /** The whole number, without an end, and then its last 64 bits. */
    private static void wraps(Checks c) {
        List<Houses.House> houses = List.of(KeyCabinet::new, Houses::lived, Houses::full,
                () -> Houses.livedTo(9999), () -> Houses.sized(8, 0, 0), () -> Houses.sized(8, 8, 24),
                () -> Houses.sized(3, 1, 0), () -> Houses.sized(5, 3, 9));
        int negative = 0;
        for (Houses.House house : houses) {
            BigInteger whole = BigInteger.valueOf(173);
            List<Integer> told = told(house);
            for (int x : told) {
                whole = whole.multiply(BigInteger.valueOf(31)).add(BigInteger.valueOf(x));
            }
            long got = house.make().digest();
            c.same("digest() of " + told.size() + " numbers", got, whole.longValue());
            c.same("it wraps around", whole.bitLength() > 63, told.size() > 10);
            negative += got < 0 ? 1 : 0;
        }
        c.same("some are negative, some are not", negative > 0 && negative < houses.size(), true);
    }

    private static List<Integer> told(Houses.House house) {
        KeyCabinet cabinet = house.make();
        List<Integer> told = new ArrayList<>();
        told.add(cabinet.keyCount());
        for (int key = 0; key < cabinet.keyCount(); key++) {
            told.add(cabinet.code(key));
        }
        told.add(cabinet.doorCount());
        for (int door = 0; door < cabinet.doorCount(); door++) {
            // Only setRights tells rights, and it changes them: so it is another cabinet's.
            told.add(house.make().setRights(door, 0));
            for (int position = 0; position < 5; position++) {
                told.add(cabinet.pins(door, position));
            }
        }
        told.add(cabinet.work());
        told.add(cabinet.today());
        told.add(cabinet.copyCount());
        for (int copy = 0; copy < cabinet.copyCount(); copy++) {
            for (int what = 0; what < 5; what++) {
                told.add(cabinet.copy(copy, what));
            }
        }
        return told;
    }
}
