import java.util.ArrayList;
import java.util.List;

/**
 * The document once more, in the plainest way: every answer is worked out anew from codes, rights
 * and a diary of holders, by trying all that there is. The runs compare the class with it.
 */
final class SlowCabinet {
    private static final int IN = 0;
    private static final int LENT = 1;
    private static final int LOST = 2;
    private static final int VOID = 3;

    private static final class Copy {
        int key;
        int state = IN;
        int person = -1;
        int due = -1;
        int times = 0;
        /** By day: who had it when the day ended. */
        final int[] diary = new int[10000];
    }

    private List<Integer> codes = new ArrayList<>();
    private List<Integer> rights = new ArrayList<>();
    private List<Copy> copies = new ArrayList<>();
    private int work = 0;
    private int day = 0;

    int addKey(int code) {
        need(code >= 0 && code <= 1023, new IllegalArgumentException());
        need(codes.size() < 8 && !codes.contains(code), new IllegalStateException());
        codes.add(code);
        return codes.size() - 1;
    }

    int addDoor(int set) {
        need(isSet(set, codes.size()), new IllegalArgumentException());
        need(rights.size() < 8, new IllegalStateException());
        boolean[][] none = new boolean[5][4];
        rights.add(set);
        work += differences(none, pinsOf(codes, set));
        return rights.size() - 1;
    }

    int setRights(int door, int set) {
        needIndex(door, rights.size());
        need(isSet(set, codes.size()), new IllegalArgumentException());
        int before = rights.set(door, set);
        work += differences(pinsOf(codes, before), pinsOf(codes, set));
        return before;
    }

    int keyCount() {
        return codes.size();
    }

    int doorCount() {
        return rights.size();
    }

    int code(int key) {
        needIndex(key, codes.size());
        return codes.get(key);
    }

    int pins(int door, int position) {
        needIndex(door, rights.size());
        needIndex(position, 5);
        int set = 0;
        for (int digit = 0; digit < 4; digit++) {
            if (pinsOf(codes, rights.get(door))[position][digit]) {
                set += (int) Math.pow(2, digit);
            }
        }
        return set;
    }

    boolean opens(int key, int door) {
        needIndex(key, codes.size());
        needIndex(door, rights.size());
        return fits(codes.get(key), pinsOf(codes, rights.get(door)));
    }

    int openers(int door) {
        needIndex(door, rights.size());
        int set = 0;
        for (int key = 0; key < codes.size(); key++) {
            set += opens(key, door) ? 1 << key : 0;
        }
        return set;
    }

    int doors(int key) {
        needIndex(key, codes.size());
        int set = 0;
        for (int door = 0; door < rights.size(); door++) {
            set += opens(key, door) ? 1 << door : 0;
        }
        return set;
    }

    int strays() {
        return straysOf(codes);
    }

    int codes(int door) {
        needIndex(door, rights.size());
        int count = 0;
        for (int code = 0; code < 1024; code++) {
            count += fits(code, pinsOf(codes, rights.get(door))) ? 1 : 0;
        }
        return count;
    }

    boolean isAbove(int a, int b) {
        needIndex(a, codes.size());
        needIndex(b, codes.size());
        boolean more = false;
        for (int door = 0; door < rights.size(); door++) {
            if (opens(b, door) && !opens(a, door)) {
                return false;
            }
            more = more || (opens(a, door) && !opens(b, door));
        }
        return more;
    }

    int work() {
        return work;
    }

    int replace(int key) {
        needIndex(key, codes.size());
        int best = -1;
        int bestStrays = 0;
        int bestWork = 0;
        for (int code = 1023; code >= 0; code--) {
            List<Integer> then = new ArrayList<>(codes);
            then.set(key, code);
            if (codes.contains(code) || anyDoorFits(codes.get(key), then)) {
                continue;
            }
            int strays = straysOf(then);
            int cost = workTo(then);
            boolean worse = best >= 0
                    && (strays > bestStrays || (strays == bestStrays && cost > bestWork));
            if (!worse) {
                best = code;
                bestStrays = strays;
                bestWork = cost;
            }
        }
        if (best < 0) {
            return -1;
        }
        work += bestWork;
        codes.set(key, best);
        for (Copy copy : copies) {
            if (copy.key == key) {
                put(copy, VOID);
            }
        }
        return best;
    }

    int cut(int key) {
        needIndex(key, codes.size());
        need(copies.size() < 24, new IllegalStateException());
        Copy copy = new Copy();
        copy.key = key;
        java.util.Arrays.fill(copy.diary, -1);
        copies.add(copy);
        return copies.size() - 1;
    }

    int lend(int number, int person, int days) {
        needIndex(number, copies.size());
        needIndex(person, 8);
        need(days >= 1 && days <= 99, new IllegalArgumentException());
        Copy copy = copies.get(number);
        need(copy.state == IN && copy.times < 9, new IllegalStateException());
        copy.state = LENT;
        copy.person = person;
        copy.due = day + days;
        copy.times++;
        return copy.due;
    }

    int giveBack(int number) {
        needIndex(number, copies.size());
        Copy copy = copies.get(number);
        need(copy.state == LENT, new IllegalStateException());
        int late = copy.due < day ? day - copy.due : 0;
        put(copy, IN);
        return late;
    }

    int lose(int number) {
        needIndex(number, copies.size());
        Copy copy = copies.get(number);
        need(copy.state == IN || copy.state == LENT, new IllegalStateException());
        put(copy, LOST);
        return doors(copy.key);
    }

    int find(int number) {
        needIndex(number, copies.size());
        Copy copy = copies.get(number);
        need(copy.state == LOST, new IllegalStateException());
        put(copy, IN);
        return risk();
    }

    int pass(int days) {
        need(days >= 1 && days <= 99, new IllegalArgumentException());
        need(day + days <= 9999, new IllegalStateException());
        for (int n = 0; n < days; n++) {
            for (Copy copy : copies) {
                copy.diary[day] = copy.person;
            }
            day++;
        }
        return day;
    }

    int today() {
        return day;
    }

    int copyCount() {
        return copies.size();
    }

    int copy(int number, int what) {
        needIndex(number, copies.size());
        needIndex(what, 5);
        Copy copy = copies.get(number);
        return List.of(copy.key, copy.state, copy.person, copy.due, copy.times).get(what);
    }

    int overdue() {
        int set = 0;
        for (int number = 0; number < copies.size(); number++) {
            Copy copy = copies.get(number);
            set += copy.state == LENT && day > copy.due ? 1 << number : 0;
        }
        return set;
    }

    int holderAt(int number, int when) {
        needIndex(number, copies.size());
        need(when >= 0 && when <= day, new IllegalArgumentException());
        Copy copy = copies.get(number);
        return when == day ? copy.person : copy.diary[when];
    }

    int reach(int person) {
        needIndex(person, 8);
        int set = 0;
        for (Copy copy : copies) {
            set |= copy.person == person ? doors(copy.key) : 0;
        }
        return set;
    }

    int risk() {
        int set = 0;
        for (Copy copy : copies) {
            set |= copy.state == LOST ? doors(copy.key) : 0;
        }
        return set;
    }

    /** Tries the sets of copies by their size, and all sets of the first size that has one. */
    int suggest(int person, int wanted) {
        needIndex(person, 8);
        need(isSet(wanted, rights.size()), new IllegalArgumentException());
        int have = reach(person);
        int[] opened = new int[copies.size()];
        int all = have;
        for (int number = 0; number < copies.size(); number++) {
            Copy copy = copies.get(number);
            opened[number] = copy.state == IN && copy.times < 9 ? doors(copy.key) : -1;
            all |= Math.max(opened[number], 0);
        }
        if ((wanted & ~all) != 0) {
            return -1;
        }
        for (int size = 0; size <= copies.size(); size++) {
            long best = bestOfSize(opened, 0, size, have, 0, wanted);
            if (best < Long.MAX_VALUE) {
                return (int) (best & 0xffffff);
            }
        }
        return -1;
    }

    double exposure() {
        int set = risk();
        for (int person = 0; person < 8; person++) {
            set |= reach(person);
        }
        return rights.isEmpty() ? 0 : 1.0 * Integer.bitCount(set) / rights.size();
    }

    long digest() {
        List<Integer> told = new ArrayList<>();
        told.add(codes.size());
        told.addAll(codes);
        told.add(rights.size());
        for (int door = 0; door < rights.size(); door++) {
            told.add(rights.get(door));
            for (int position = 0; position < 5; position++) {
                told.add(pins(door, position));
            }
        }
        told.add(work);
        told.add(day);
        told.add(copies.size());
        for (Copy copy : copies) {
            told.addAll(List.of(copy.key, copy.state, copy.person, copy.due, copy.times));
        }
        long d = 173;
        for (int x : told) {
            d = d * 31 + x;
        }
        return d;
    }

    private static void put(Copy copy, int state) {
        copy.state = state;
        copy.person = -1;
        copy.due = -1;
    }

    /** Of the sets with so many more copies: the number of doors in all, then the set itself. */
    private long bestOfSize(int[] opened, int from, int size, int doors, int set, int wanted) {
        if (size == 0) {
            boolean enough = (wanted & ~doors) == 0;
            return enough ? ((long) Integer.bitCount(doors) << 24) + set : Long.MAX_VALUE;
        }
        long best = Long.MAX_VALUE;
        for (int number = from; number < opened.length; number++) {
            if (opened[number] >= 0) {
                best = Math.min(best, bestOfSize(opened, number + 1, size - 1,
                        doors | opened[number], set | 1 << number, wanted));
            }
        }
        return best;
    }

    private int straysOf(List<Integer> then) {
        int count = 0;
        for (int set : rights) {
            boolean[][] pins = pinsOf(then, set);
            for (int key = 0; key < then.size(); key++) {
                count += fits(then.get(key), pins) && (set & 1 << key) == 0 ? 1 : 0;
            }
        }
        return count;
    }

    private int workTo(List<Integer> then) {
        int count = 0;
        for (int set : rights) {
            count += differences(pinsOf(codes, set), pinsOf(then, set));
        }
        return count;
    }

    private boolean anyDoorFits(int code, List<Integer> then) {
        for (int set : rights) {
            if (fits(code, pinsOf(then, set))) {
                return true;
            }
        }
        return false;
    }

    private static boolean[][] pinsOf(List<Integer> codes, int set) {
        boolean[][] pins = new boolean[5][4];
        for (int key = 0; key < codes.size(); key++) {
            for (int position = 0; position < 5; position++) {
                if ((set & 1 << key) != 0) {
                    pins[position][digit(codes.get(key), position)] = true;
                }
            }
        }
        return pins;
    }

    private static int digit(int code, int position) {
        int[] weights = {256, 64, 16, 4, 1};
        return code / weights[position] % 4;
    }

    private static boolean fits(int code, boolean[][] pins) {
        for (int position = 0; position < 5; position++) {
            if (!pins[position][digit(code, position)]) {
                return false;
            }
        }
        return true;
    }

    private static int differences(boolean[][] before, boolean[][] after) {
        int count = 0;
        for (int position = 0; position < 5; position++) {
            for (int digit = 0; digit < 4; digit++) {
                count += before[position][digit] != after[position][digit] ? 1 : 0;
            }
        }
        return count;
    }

    private static boolean isSet(int set, int members) {
        return set >= 0 && set < 1 << members;
    }

    private static void needIndex(int index, int count) {
        need(index >= 0 && index < count, new IndexOutOfBoundsException());
    }

    private static void need(boolean held, RuntimeException otherwise) {
        if (!held) {
            throw otherwise;
        }
    }
}
