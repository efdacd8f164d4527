import java.util.List;

/** Each number of each call, in each state: the last that is as told, the first that is not, and that this changes nothing. */
public final class LimitsTest {
    private static final Due DUE = new Due("LimitsTest");

    public static void main(String[] args) {
        for (State state : State.values()) {
            List<String> before = Portrait.of(state.make(), state);
            for (Told told : Told.all(state)) {
                for (int n = 0; n < told.ends.length; n++) {
                    insideIsTaken(state, told, n);
                    outsideIsRefused(state, told, n, before);
                }
            }
        }
        DUE.end();
    }

    private static String text(State state, Told told, int n, int number) {
        return state + ": " + told.name + " with number " + n + " being " + number;
    }

    private static void insideIsTaken(State state, Told told, int n) {
        if (told.isAskable(n)) {
            for (int number : told.inside(n)) {
                long answer = state.make().ask(h -> told.ask.of(h, told.with(n, number)));
                DUE.due(told.promise, text(state, told, n, number) + " is refused", answer == told.refused ? 1 : 0, 0);
            }
        }
    }

    private static void outsideIsRefused(State state, Told told, int n, List<String> before) {
        for (int number : told.outside(n)) {
            Run x = state.make();
            DUE.due(told.promise, text(state, told, n, number), x.ask(h -> told.ask.of(h, told.with(n, number))), told.refused);
            String change = Portrait.difference(Portrait.of(x, state), before);
            DUE.due(told.promise, text(state, told, n, number) + " changed " + change, change.length(), 0);
        }
    }
}
