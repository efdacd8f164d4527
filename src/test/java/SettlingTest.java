/** Promises 24 to 27. */
public final class SettlingTest {
    private static final Due DUE = new Due("SettlingTest");

    public static void main(String[] args) {
        rules();
        settlingMeterByMeter();
        onlyTheLatest();
        overloading();
        tiring();
        comingAsNotTold();
        startingAnew();
        DUE.end();
    }

    private static void dueSettled(WindHall x, int... want) {
        for (int what = 0; what < 6; what++) {
            DUE.due(26, "settled " + what, x.settled(what), want[what]);
        }
        DUE.due(26, "settled -1", x.settled(-1), WindHall.BAD);
        DUE.due(26, "settled 6", x.settled(6), WindHall.BAD);
    }

    private static void rules() {
        WindHall x = new WindHall();
        DUE.due(24, "the least rule", x.rule(1, 0, 1, 1), 1);
        DUE.due(24, "the greatest rule", x.rule(8, 100000, 100, 2000000), 1);
        DUE.due(24, "rule", x.rule(2, 3, 4, 50), 1);
        x.come(1, 2, 3);
        int[][] wrong = {{0, 3, 4, 50}, {9, 3, 4, 50}, {2, -1, 4, 50}, {2, 100001, 4, 50}, {2, 3, 0, 50},
            {2, 3, 101, 50}, {2, 3, 4, 0}, {2, 3, 4, 2000001}, {Integer.MIN_VALUE, 3, 4, 50}};
        for (int[] w : wrong) {
            DUE.due(24, "rule as not told", x.rule(w[0], w[1], w[2], w[3]), WindHall.BAD);
        }
        dueSettled(x, 0, 1, WindHall.NONE, 0, 0, 0);
        DUE.due(25, "settled by the rule that stands", x.come(4, 5, 6), 1);
        dueSettled(x, 1, 2, WindHall.NONE, 5, 7, 9);
        DUE.due(24, "rule", x.rule(2, 3, 4, 50), 1);
        dueSettled(x, 0, 0, WindHall.NONE, 0, 0, 0);
        DUE.due(25, "what came before a rule is gone", x.come(4, 5, 6), 0);
    }

    private static void settlingMeterByMeter() {
        // Of the steps of one meter the latest three are 6 from one another, again 6, then 5.
        int[] steps = {0, -3, 3, 2, -2};
        int[] states = {0, 0, 0, 0, 1};
        for (int i = 0; i < 3; i++) {
            WindHall x = new WindHall();
            x.rule(3, 5, 50, 2000000);
            for (int k = 0; k < steps.length; k++) {
                int[] row = {100, -200, 1900000};
                row[i] += steps[k];
                DUE.due(25, "step " + k + " of meter " + i, x.come(row[0], row[1], row[2]), states[k]);
            }
            DUE.due(25, "come when settled", x.come(0, 0, 0), WindHall.STATE);
        }
        WindHall x = new WindHall();
        x.rule(1, 0, 1, 9);
        DUE.due(25, "one alone settles", x.come(-9, 9, 0), 1);
        dueSettled(x, 1, 1, WindHall.NONE, -9, 9, 0);
    }

    private static void onlyTheLatest() {
        for (int n = 1; n <= 8; n++) {
            WindHall x = new WindHall();
            x.rule(n, 0, 100, 2000000);
            for (int k = 0; n > 1 && k < 29; k++) {
                DUE.due(25, "to and fro", x.come(k % 2, 7, 2000000), 0);
            }
            for (int k = 1; k <= n; k++) {
                DUE.due(25, "come " + k + " of " + n, x.come(-1000, 7, 2000000), k < n ? 0 : 1);
            }
            dueSettled(x, 1, n > 1 ? 29 + n : 1, WindHall.NONE, -1000 * n, 7 * n, 2000000 * n);
        }
    }

    private static void overloading() {
        int[][] rows = {{101, 101, 101, 0}, {-101, 0, 0, 0}, {100, -101, 2000000, 1}, {-100, 100, 101, 2}, {0, 0, -101, 2}};
        for (int[] r : rows) {
            WindHall x = new WindHall();
            x.rule(1, 100000, 1, 100);
            DUE.due(25, "overloaded, not settled or tired", x.come(r[0], r[1], r[2]), 2);
            dueSettled(x, 2, 1, r[3], 0, 0, 0);
            DUE.due(25, "it stops", x.come(0, 0, 0), WindHall.STATE);
            DUE.due(27, "anew", x.anew(), 1);
            dueSettled(x, 0, 0, WindHall.NONE, 0, 0, 0);
        }
    }

    private static void tiring() {
        WindHall x = new WindHall();
        x.rule(8, 100, 3, 100);
        DUE.due(25, "come", x.come(1, 1, 1), 0);
        DUE.due(25, "come", x.come(1, 1, 1), 0);
        DUE.due(25, "fewer than N came", x.come(1, 1, 1), 3);
        dueSettled(x, 3, 3, WindHall.NONE, 0, 0, 0);
        DUE.due(25, "come when tired", x.come(1, 1, 1), WindHall.STATE);
        x.rule(3, 0, 3, 100);
        x.come(1, 1, 1);
        x.come(1, 1, 1);
        DUE.due(25, "settled with the last one", x.come(1, 1, 1), 1);
        x.rule(2, 0, 100, 100);
        for (int k = 1; k <= 100; k++) {
            DUE.due(25, "come " + k, x.come(k % 2, 0, 0), k < 100 ? 0 : 3);
        }
        DUE.due(27, "anew", x.anew(), 100);
    }

    private static void comingAsNotTold() {
        WindHall x = new WindHall();
        int[][] wrong = {{2000001, 0, 0}, {-2000001, 0, 0}, {0, 2000001, 0}, {0, -2000001, 0}, {0, 0, 2000001},
            {0, 0, -2000001}, {Integer.MIN_VALUE, 0, 0}};
        for (int[] w : wrong) {
            DUE.due(25, "come as not told", x.come(w[0], w[1], w[2]), WindHall.BAD);
        }
        dueSettled(x, 0, 0, WindHall.NONE, 0, 0, 0);
        DUE.due(25, "beyond the limit", x.come(0, 2000000, 0), 2);
        for (int[] w : wrong) {
            DUE.due(25, "BAD ahead of STATE", x.come(w[0], w[1], w[2]), WindHall.BAD);
        }
    }

    private static void startingAnew() {
        WindHall x = new WindHall();
        x.rule(3, 0, 4, 70);
        x.come(1, 1, 1);
        x.come(1, 1, 1);
        DUE.due(27, "anew", x.anew(), 2);
        DUE.due(27, "anew again", x.anew(), 0);
        DUE.due(27, "the latest are gone", x.come(1, 1, 1), 0);
        DUE.due(27, "the latest are gone", x.come(1, 1, 1), 0);
        DUE.due(27, "the rule stays", x.come(1, 1, 1), 1);
    }
}
