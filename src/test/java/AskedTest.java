import java.util.List;
import java.util.function.ToLongFunction;

/** What is only asked changes nothing; and what changes something is seen, so that the portraits are worth their name. */
public final class AskedTest {
    private static final Due DUE = new Due("AskedTest");

    private interface Each {
        void of(int promise, String call, ToLongFunction<WindHall> ask);
    }

    public static void main(String[] args) {
        for (State state : State.values()) {
            List<String> before = Portrait.of(state.make(), state);
            asked((promise, call, ask) -> compare(state, before, promise, call, ask, true));
        }
        List<String> before = Portrait.of(State.SOME.make(), State.SOME);
        changing((promise, call, ask) -> compare(State.SOME, before, promise, call, ask, false));
        DUE.end();
    }

    private static void compare(State state, List<String> before, int promise, String call, ToLongFunction<WindHall> ask, boolean same) {
        Run x = state.make();
        x.ask(ask);
        String change = Portrait.difference(Portrait.of(x, state), before);
        DUE.due(promise, state + ": " + call + " leaves all as it was (1): " + change, change.isEmpty() ? 1 : 0, same ? 1 : 0);
    }

    private static void asked(Each each) {
        for (int n = -1; n <= 13; n++) {
            int k = n;
            each.of(4, "reading", h -> h.reading(k % 3, k, -k, 50));
            each.of(6, "found", h -> h.found(k));
            each.of(8, "fit", h -> h.fit(k % 3, k % 2, k % 2));
            each.of(9, "miss", h -> h.miss(k));
            each.of(16, "corrected", h -> h.corrected(k % 3, k));
            each.of(17, "touches", h -> h.touches(k));
            each.of(18, "minds", h -> h.minds(k));
            each.of(21, "moves", h -> h.moves(k, 0));
            each.of(23, "order", h -> h.order(k));
            each.of(26, "settled", h -> h.settled(k));
            each.of(34, "check", h -> h.check(100 * k, k));
            each.of(35, "fill", h -> h.fill(100 * k));
            each.of(36, "count", h -> h.count(k));
        }
        each.of(22, "least", h -> h.least());
        each.of(33, "force", h -> h.force());
    }

    private static void changing(Each each) {
        for (int n = 0; n < 3; n++) {
            int i = n;
            for (int m = 0; m < 6; m++) {
                int p = m;
                each.of(2, "first", h -> h.first(i, p / 2, 77));
                each.of(3, "second", h -> h.second(i, p, 19));
            }
            each.of(29, "press", h -> h.press(i, false, 3));
            each.of(29, "press or lost", h -> i < 2 ? h.press(i, true, 0) : h.press(i, false, 0));
            each.of(30, "sheet of another size", h -> h.sheet(i, i, 6));
            each.of(30, "sheet of zeros", h -> h.sheet(i, i, 5));
            each.of(30, "sheet of another lane", h -> h.sheet(i, (i + 1) % 3, 5));
            each.of(31, "lay", h -> h.lay(i, 2, 1));
            each.of(32, "scan", h -> h.scan(i, i, 1));
            each.of(13, "swap", h -> h.swap(i));
            each.of(20, "done", h -> h.done(i, i != 1));
        }
        each.of(5, "back", h -> h.back(1000, 2000, 3000, 9));
        each.of(7, "point", h -> h.point(1, 2, 3, 4, 5, 6));
        each.of(10, "forget", h -> h.forget());
        each.of(11, "correct", h -> h.correct(0, 0, 0, 0));
        each.of(12, "turn", h -> h.turn(0, false));
        each.of(12, "turn", h -> h.turn(1, true));
        each.of(14, "drop", h -> h.drop());
        each.of(15, "raw of another TIME", h -> h.raw(1234, -4321, 99, 334, 5));
        each.of(15, "raw of another ANGLE", h -> h.raw(1234, -4321, 99, 333, 6));
        each.of(15, "raw of another reading", h -> h.raw(1234, -4321, 98, 333, 5));
        each.of(19, "place", h -> h.place(0, 0));
        each.of(24, "rule as it stands", h -> h.rule(3, 5, 9, 1000));
        each.of(24, "rule of another N", h -> h.rule(4, 5, 9, 1000));
        each.of(24, "rule of another D", h -> h.rule(3, 6, 9, 1000));
        each.of(24, "rule of another MOST", h -> h.rule(3, 5, 8, 1000));
        each.of(24, "rule of another LIMIT", h -> h.rule(3, 5, 9, 999));
        each.of(25, "come", h -> h.come(0, 0, 0));
        each.of(27, "anew", h -> h.anew());
        each.of(28, "tube", h -> h.tube(1));
        each.of(30, "sheet where nothing was", h -> h.sheet(3, 0, 0));
    }
}
