import java.util.ArrayList;
import java.util.List;
import java.util.function.Function;

/** All that a cabinet can be asked, and all calls that can change it, with the values that matter. */
final class Telling {
    static final class Question {
        private final String text;
        private final Function<KeyCabinet, Object> ask;

        Question(String text, Function<KeyCabinet, Object> ask) {
            this.text = text;
            this.ask = ask;
        }

        String text() {
            return text;
        }

        Object of(KeyCabinet cabinet) {
            return Checks.outcome(() -> ask.apply(cabinet));
        }
    }

    private final int keys;
    private final int doors;
    private final int copies;
    private final int day;
    private List<Question> list = new ArrayList<>();

    private Telling(KeyCabinet like) {
        keys = like.keyCount();
        doors = like.doorCount();
        copies = like.copyCount();
        day = like.today();
    }

    /** What a cabinet like this one can be asked; numbers that one more key, door .. would have too. */
    static List<Question> questions(KeyCabinet like) {
        Telling telling = new Telling(like);
        telling.askPlan();
        telling.askCopies();
        telling.askPersons();
        return telling.list;
    }

    /** The calls that change a cabinet like this one, or that it refuses. */
    static List<Question> changes(KeyCabinet like) {
        Telling telling = new Telling(like);
        telling.changePlan();
        telling.changeCopies();
        return telling.list;
    }

    private void put(String text, Function<KeyCabinet, Object> ask) {
        list.add(new Question(text, ask));
    }

    private void askPlan() {
        put("keyCount()", x -> x.keyCount());
        put("doorCount()", x -> x.doorCount());
        put("strays()", x -> x.strays());
        put("work()", x -> x.work());
        put("digest()", x -> x.digest());
        for (int k = 0; k <= keys; k++) {
            int key = k;
            put("code(" + key + ")", x -> x.code(key));
            put("doors(" + key + ")", x -> x.doors(key));
            for (int o = 0; o <= keys; o++) {
                int other = o;
                put("isAbove(" + key + ", " + other + ")", x -> x.isAbove(key, other));
            }
        }
        for (int d = 0; d <= doors; d++) {
            int door = d;
            put("openers(" + door + ")", x -> x.openers(door));
            put("codes(" + door + ")", x -> x.codes(door));
            for (int p = 0; p < 5; p++) {
                int position = p;
                put("pins(" + door + ", " + position + ")", x -> x.pins(door, position));
            }
            for (int k = 0; k <= keys; k++) {
                int key = k;
                put("opens(" + key + ", " + door + ")", x -> x.opens(key, door));
            }
        }
    }

    private void askCopies() {
        put("today()", x -> x.today());
        put("copyCount()", x -> x.copyCount());
        put("overdue()", x -> x.overdue());
        for (int n = 0; n <= copies; n++) {
            int copy = n;
            for (int w = 0; w < 5; w++) {
                int what = w;
                put("copy(" + copy + ", " + what + ")", x -> x.copy(copy, what));
            }
            for (int w = 0; w <= day + 1; w = w == 20 && day > 40 ? day - 2 : w + 1) {
                int when = w;
                put("holderAt(" + copy + ", " + when + ")", x -> x.holderAt(copy, when));
            }
        }
    }

    private void askPersons() {
        put("risk()", x -> x.risk());
        put("exposure()", x -> x.exposure());
        for (int p = 0; p < 8; p++) {
            int person = p;
            put("reach(" + person + ")", x -> x.reach(person));
            for (int set = 0; set <= 1 << doors; set++) {
                int wanted = set;
                if (doors < 5 || Integer.bitCount(wanted) < 2 || Integer.bitCount(wanted) == doors) {
                    put("suggest(" + person + ", " + wanted + ")", x -> x.suggest(person, wanted));
                }
            }
        }
    }

    private void changePlan() {
        put("addKey(0)", x -> x.addKey(0));
        put("addKey(1023)", x -> x.addKey(1023));
        put("addDoor(0)", x -> x.addDoor(0));
        put("addDoor of all keys", x -> x.addDoor((1 << keys) - 1));
        for (int k = 0; k <= keys; k++) {
            int key = k;
            put("addDoor(" + (1 << key) + ")", x -> x.addDoor(1 << key));
            put("replace(" + key + ")", x -> x.replace(key));
            put("cut(" + key + ")", x -> x.cut(key));
        }
        for (int d = 0; d <= doors; d++) {
            int door = d;
            put("setRights(" + door + ", 0)", x -> x.setRights(door, 0));
            put("setRights of all keys at " + door, x -> x.setRights(door, (1 << keys) - 1));
        }
    }

    private void changeCopies() {
        put("pass(1)", x -> x.pass(1));
        put("pass(99)", x -> x.pass(99));
        for (int n = 0; n <= copies; n++) {
            int copy = n;
            put("lend(" + copy + ", 0, 1)", x -> x.lend(copy, 0, 1));
            put("lend(" + copy + ", 7, 99)", x -> x.lend(copy, 7, 99));
            put("giveBack(" + copy + ")", x -> x.giveBack(copy));
            put("lose(" + copy + ")", x -> x.lose(copy));
            put("find(" + copy + ")", x -> x.find(copy));
        }
    }
}
