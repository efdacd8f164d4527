import java.util.ArrayList;
import java.util.List;
import java.util.function.ToLongFunction;

/** All that a hall shows of its state, also what only calls that change it bring out: the hall is used up by it. */
final class Portrait {
    private final Run x;
    private final State state;
    private final List<String> lines = new ArrayList<>();

    private Portrait(Run x, State state) {
        this.x = x;
        this.state = state;
    }

    static List<String> of(Run x, State state) {
        Portrait p = new Portrait(x, state);
        p.counts();
        p.balance();
        p.calibration();
        p.corrections();
        p.program();
        p.settling();
        p.tubes();
        p.sheets();
        return p.lines;
    }

    /** The first line in which two differ, or an empty text. */
    static String difference(List<String> one, List<String> other) {
        for (int n = 0; n < Math.max(one.size(), other.size()); n++) {
            String a = n < one.size() ? one.get(n) : "nothing";
            String b = n < other.size() ? other.get(n) : "nothing";
            if (!a.equals(b)) {
                return a + " instead of " + b;
            }
        }
        return "";
    }

    private long note(String call, ToLongFunction<WindHall> ask) {
        long answer = x.ask(ask);
        lines.add(call + " = " + answer);
        return answer;
    }

    private void counts() {
        for (int n = 0; n < 6; n++) {
            int what = n;
            note("count " + what, h -> h.count(what));
        }
    }

    private void balance() {
        int[][] loads = {{1, 0, 0}, {0, 1, 0}, {0, 0, 1}, {-1, 0, 0}, {0, -1, 0}, {0, 0, -1}, {1, 1, 0}, {1, 0, 1}, {0, 1, 1}};
        for (int n = 0; n < 3; n++) {
            int i = n;
            for (int[] l : loads) {
                note("reading " + i, h -> h.reading(i, l[0], l[1], l[2]));
            }
        }
        for (int n = 0; n < 5; n++) {
            int what = n;
            note("found " + what, h -> h.found(what));
        }
    }

    private void calibration() {
        for (int n = 0; n < 3; n++) {
            int i = n;
            for (int m = 0; m < 3; m++) {
                int j = m;
                note("fit numerator", h -> h.fit(i, j, 0));
                note("fit denominator", h -> h.fit(i, j, 1));
            }
            note("miss " + i, h -> h.miss(i));
            x.ask(h -> h.first(i, 0, 100));
            note("miss by another first " + i, h -> h.miss(i));
        }
    }

    private void corrections() {
        for (int n = 0; n <= state.corrections + 1; n++) {
            int k = n;
            for (int m = 0; m < 3; m++) {
                int i = m;
                note("corrected " + i + " behind " + k, h -> h.corrected(i, k));
            }
            note("turn " + k, h -> h.turn(k, true));
        }
        for (int n = 0; n <= state.corrections + 1; n++) {
            note("drop", h -> h.drop());
        }
        // With nothing else there, TIME and ANGLE show as they are.
        note("correct", h -> h.correct(1, 1000, 0, 0));
        note("TIME", h -> h.corrected(0, 1));
        note("correct", h -> h.correct(4, 10000, 0, 0));
        note("COS", h -> h.corrected(0, 2));
        note("SIN", h -> h.corrected(1, 2));
    }

    private void program() {
        note("least", h -> h.least());
        for (int n = 0; n <= state.places + 1; n++) {
            int k = n;
            note("order " + k, h -> h.order(k));
            note("moves " + k, h -> h.moves(k, 0));
            note("done " + k, h -> h.done(k, true));
            // All are gone through at last, so that each place's angle and speed count.
            x.ask(h -> h.done(k, false));
        }
        note("least of all", h -> h.least());
    }

    private void settling() {
        int n = state.rule[0];
        int d = state.rule[1];
        int most = state.rule[2];
        int limit = state.rule[3];
        for (int m = 0; m < 6; m++) {
            int what = m;
            note("settled " + what, h -> h.settled(what));
        }
        note("come", h -> h.come(11, 18, 31));
        note("sum", h -> h.settled(4));
        note("anew", h -> h.anew());
        for (int k = 1; k < n; k++) {
            note("come", h -> h.come(0, 0, 0));
        }
        note("at D", h -> h.come(0, Math.min(d, limit), 0));
        note("anew", h -> h.anew());
        for (int k = 1; k < n; k++) {
            note("come", h -> h.come(0, 0, 0));
        }
        for (int m = n; m <= most; m++) {
            int far = (m - n) % 2 == 0 ? d + 1 : 0;
            note("above D", h -> h.come(0, 0, far));
        }
        note("anew", h -> h.anew());
        note("at LIMIT", h -> h.come(limit, 0, 0));
        note("anew", h -> h.anew());
        note("above LIMIT", h -> h.come(0, limit + 1, 0));
    }

    private void tubes() {
        for (int n = 0; n <= state.tubes; n++) {
            int k = n;
            note("force", h -> h.force());
            note("lost", h -> h.count(5));
            note("press " + k, h -> h.press(k, true, 0));
            note("force without " + k, h -> h.force());
            note("press " + k, h -> h.press(k, false, 1));
        }
        note("force of areas", h -> h.force());
    }

    private void sheets() {
        long tubes = note("count 4", h -> h.count(4));
        if (tubes == 0) {
            tubes = 1 + note("tube", h -> h.tube(1));
        }
        for (int n = 0; n < 4; n++) {
            int k = n;
            for (int m = 0; m < 3; m++) {
                int lane = m;
                int f = 0;
                while (f < 60 && note("scan " + k + " lane " + lane + " from " + f, scanFrom(k, lane, f)) >= 0) {
                    note("force", h -> h.force());
                    // Small sheets are looked at cell by cell, great ones by rows.
                    f += Math.max(1, (int) tubes / 2);
                }
            }
        }
    }

    private static ToLongFunction<WindHall> scanFrom(int k, int lane, int f) {
        return h -> h.scan(k, lane, f);
    }
}
