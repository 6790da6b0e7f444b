import java.util.List;

/** Long runs of calls, right and wrong ones, answered by the class as by SlowCabinet. */
final class RunTests {
    private static final int RUNS = 900;
    /** An object is used for so many calls; a step makes four at most, and digest() is the last. */
    private static final int CALLS = 512;
    private static final int MOST_IN_STEP = 5;
    private static final int[] STRANGE = {-1, 8, 24, 100, Integer.MIN_VALUE, Integer.MAX_VALUE};

    /** How often each kind of call comes, in the order of the switch in step. */
    private static final List<int[]> MIXES = List.of(
            new int[] {4, 4, 6, 3, 3, 12, 6, 3, 3, 6, 30, 8},
            new int[] {8, 8, 3, 14, 3, 3, 1, 1, 1, 2, 30, 4},
            new int[] {8, 8, 12, 6, 2, 2, 1, 1, 1, 2, 20, 6},
            new int[] {2, 2, 1, 1, 6, 24, 20, 2, 3, 24, 20, 6},
            new int[] {8, 8, 2, 0, 6, 8, 3, 2, 2, 2, 10, 30});

    private final KeyCabinet cabinet = new KeyCabinet();
    private final SlowCabinet slow = new SlowCabinet();
    private final Checks checks;
    private final String name;
    private int calls = 0;
    private long seed;
    /** Codes of few digits stray more often. */
    private final int digits;

    private RunTests(Checks checks, String name, long seed) {
        this.checks = checks;
        this.name = name;
        this.seed = seed;
        this.digits = 2 + upTo(3);
    }

    static void addTo(Checks checks) {
        for (int mix = 0; mix < MIXES.size(); mix++) {
            int[] weights = MIXES.get(mix);
            int first = mix * RUNS;
            checks.test("promises 1 to 32: runs of mix " + mix, c -> {
                for (int run = first; run < first + RUNS / MIXES.size(); run++) {
                    new RunTests(c, "run " + run, run).run(weights);
                }
            });
        }
    }

    private void run(int[] weights) {
        int all = 0;
        for (int weight : weights) {
            all += weight;
        }
        while (calls < CALLS - MOST_IN_STEP) {
            int left = upTo(all);
            int kind = 0;
            while (left >= weights[kind]) {
                left -= weights[kind];
                kind++;
            }
            step(kind);
        }
        same("digest()", cabinet::digest, slow::digest);
    }

    private void step(int kind) {
        int key = index(slow.keyCount());
        int door = index(slow.doorCount());
        int copy = index(slow.copyCount());
        int person = index(8);
        int days = upTo(20) == 0 ? STRANGE[upTo(STRANGE.length)] : 1 + upTo(upTo(4) == 0 ? 99 : 4);
        int keys = set(slow.keyCount());
        switch (kind) {
            case 0:
                int code = anyCode();
                same("addKey(" + code + ")", () -> cabinet.addKey(code), () -> slow.addKey(code));
                break;
            case 1:
                same("addDoor(" + keys + ")", () -> cabinet.addDoor(keys), () -> slow.addDoor(keys));
                break;
            case 2:
                same("setRights(" + door + ", " + keys + ")",
                        () -> cabinet.setRights(door, keys), () -> slow.setRights(door, keys));
                break;
            case 3:
                same("replace(" + key + ")", () -> cabinet.replace(key), () -> slow.replace(key));
                break;
            case 4:
                same("cut(" + key + ")", () -> cabinet.cut(key), () -> slow.cut(key));
                break;
            case 5:
                same("lend(" + copy + ", " + person + ", " + days + ")",
                        () -> cabinet.lend(copy, person, days),
                        () -> slow.lend(copy, person, days));
                break;
            case 6:
                same("giveBack(" + copy + ")",
                        () -> cabinet.giveBack(copy), () -> slow.giveBack(copy));
                break;
            case 7:
                same("lose(" + copy + ")", () -> cabinet.lose(copy), () -> slow.lose(copy));
                break;
            case 8:
                same("find(" + copy + ")", () -> cabinet.find(copy), () -> slow.find(copy));
                break;
            case 9:
                same("pass(" + days + ")", () -> cabinet.pass(days), () -> slow.pass(days));
                break;
            case 10:
                askPlan(key, door);
                askCopies(copy, person);
                break;
            default:
                int doors = set(slow.doorCount());
                same("suggest(" + person + ", " + doors + ")",
                        () -> cabinet.suggest(person, doors), () -> slow.suggest(person, doors));
                break;
        }
    }

    private void askPlan(int key, int door) {
        int other = index(slow.keyCount());
        int position = index(5);
        switch (upTo(20)) {
            case 0:
                same("keyCount()", cabinet::keyCount, slow::keyCount);
                same("doorCount()", cabinet::doorCount, slow::doorCount);
                break;
            case 1:
                same("code(" + key + ")", () -> cabinet.code(key), () -> slow.code(key));
                break;
            case 2:
                same("pins(" + door + ", " + position + ")",
                        () -> cabinet.pins(door, position), () -> slow.pins(door, position));
                break;
            case 3:
                same("opens(" + key + ", " + door + ")",
                        () -> cabinet.opens(key, door), () -> slow.opens(key, door));
                break;
            case 4:
                same("openers(" + door + ")", () -> cabinet.openers(door), () -> slow.openers(door));
                break;
            case 5:
                same("doors(" + key + ")", () -> cabinet.doors(key), () -> slow.doors(key));
                break;
            case 6:
                same("codes(" + door + ")", () -> cabinet.codes(door), () -> slow.codes(door));
                break;
            case 7:
                same("isAbove(" + key + ", " + other + ")",
                        () -> cabinet.isAbove(key, other), () -> slow.isAbove(key, other));
                break;
            case 8:
                same("strays()", cabinet::strays, slow::strays);
                break;
            case 9:
                same("work()", cabinet::work, slow::work);
                break;
            default:
                same("strays()", cabinet::strays, slow::strays);
                break;
        }
    }

    private void askCopies(int copy, int person) {
        int what = index(5);
        int day = index(slow.today() + 1);
        switch (upTo(16)) {
            case 0:
                same("today()", cabinet::today, slow::today);
                same("copyCount()", cabinet::copyCount, slow::copyCount);
                break;
            case 1:
                same("copy(" + copy + ", " + what + ")",
                        () -> cabinet.copy(copy, what), () -> slow.copy(copy, what));
                break;
            case 2:
                same("overdue()", cabinet::overdue, slow::overdue);
                break;
            case 3:
            case 4:
            case 5:
                same("holderAt(" + copy + ", " + day + ")",
                        () -> cabinet.holderAt(copy, day), () -> slow.holderAt(copy, day));
                break;
            case 6:
                same("reach(" + person + ")", () -> cabinet.reach(person), () -> slow.reach(person));
                break;
            case 7:
                same("risk()", cabinet::risk, slow::risk);
                break;
            case 8:
                same("exposure()", cabinet::exposure, slow::exposure);
                break;
            case 9:
                same("digest()", cabinet::digest, slow::digest);
                break;
            default:
                same("overdue()", cabinet::overdue, slow::overdue);
                break;
        }
    }

    private void same(String call, Checks.Call got, Checks.Call due) {
        calls++;
        checks.same(name + ": " + call, Checks.outcome(got), Checks.outcome(due));
    }

    private int anyCode() {
        if (upTo(12) == 0) {
            return List.of(-1, 1024, 0, 1023, Integer.MAX_VALUE).get(upTo(5));
        }
        int code = 0;
        for (int position = 0; position < 5; position++) {
            code = code * 4 + upTo(digits);
        }
        return code;
    }

    /** Mostly one that there is. */
    private int index(int count) {
        if (count == 0 || upTo(25) == 0) {
            return upTo(2) == 0 ? count : STRANGE[upTo(STRANGE.length)];
        }
        return upTo(count);
    }

    private int set(int members) {
        switch (upTo(12)) {
            case 0:
                return upTo(2) == 0 ? 1 << members : STRANGE[upTo(STRANGE.length)];
            case 1:
            case 2:
            case 3:
            case 4:
                return upTo(1 << members) & upTo(1 << members);
            default:
                return upTo(1 << members);
        }
    }

    /** A number from 0 to below the bound, by a rule of its own, so that each run can be had again. */
    private int upTo(int bound) {
        seed = seed * 6364136223846793005L + 1442695040888963407L;
        return (int) ((seed >>> 33) % bound);
    }
}
