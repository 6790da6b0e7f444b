import java.util.List;
import java.util.function.Function;

/** Tests that a call has a certain outcome, and that nothing whatever is changed by it. */
final class Unchanged {
    /** An object is used for 512 calls: a house takes up to 160, and a part is asked twice. */
    private static final int PART = 150;

    private final Checks checks;
    private final Houses.House house;
    private final List<Telling.Question> questions;
    private final List<Telling.Question> changes;

    Unchanged(Checks checks, Houses.House house) {
        this.checks = checks;
        this.house = house;
        this.questions = Telling.questions(house.make());
        this.changes = Telling.changes(house.make());
    }

    /** The call throws this exception, and then all is as it was before. */
    void refused(String text, Class<? extends RuntimeException> due,
            Function<KeyCabinet, Object> call) {
        by(text, "throws " + due.getSimpleName(), call);
    }

    /** The call answers this, and then all is as it was before. */
    void by(String text, Object due, Function<KeyCabinet, Object> call) {
        for (int from = 0; from < questions.size(); from += PART) {
            int to = Math.min(from + PART, questions.size());
            askBeforeAndAfter(text, due, call, questions.subList(from, to));
        }
        for (Telling.Question change : changes) {
            changeAfter(text, due, call, change);
        }
    }

    private void askBeforeAndAfter(String text, Object due, Function<KeyCabinet, Object> call,
            List<Telling.Question> part) {
        KeyCabinet cabinet = house.make();
        KeyCabinet fresh = house.make();
        Object[] before = new Object[part.size()];
        for (int n = 0; n < before.length; n++) {
            before[n] = part.get(n).of(cabinet);
        }
        checks.same(text, Checks.outcome(() -> call.apply(cabinet)), due);
        checks.same(text + " on a fresh one", Checks.outcome(() -> call.apply(fresh)), due);
        for (int n = 0; n < before.length; n++) {
            String asked = part.get(n).text() + " after " + text;
            checks.same(asked, part.get(n).of(cabinet), before[n]);
            checks.same(asked + " on a fresh one", part.get(n).of(fresh), before[n]);
        }
    }

    /** What comes later goes as if the call had not been. */
    private void changeAfter(String text, Object due, Function<KeyCabinet, Object> call,
            Telling.Question change) {
        KeyCabinet with = house.make();
        KeyCabinet without = house.make();
        checks.same(text, Checks.outcome(() -> call.apply(with)), due);
        String later = change.text() + " after " + text;
        checks.same(later, change.of(with), change.of(without));
        checks.same("digest() and " + later, with.digest(), without.digest());
        checks.same("risk() and " + later, with.risk(), without.risk());
        checks.same("overdue() and " + later, with.overdue(), without.overdue());
    }
}
