/** The sentences on corrections that name an edge: promises 11 to 18. */
public final class EdgesOfCorrectionsTest {
    private static final Due DUE = new Due("EdgesOfCorrectionsTest");
    private static final int BAD = WindHall.BAD, FULL = WindHall.FULL, NONE = WindHall.NONE;
    private static final int ZERO = 0, DRIFT = 1, PROP = 2, WALL = 3, WEIGHT = 4;
    private static final int MIN = Integer.MIN_VALUE, MAX = Integer.MAX_VALUE;
    private static final int[] QUARTER = {1000, 966, 866, 707, 500, 259, 0};

    public static void main(String[] args) {
        room();
        onAtFirst();
        kinds();
        numbersOfAllButWall();
        numbersOfWall();
        timeAndAngle();
        zeroAndProp();
        drift();
        wall();
        weight();
        turning();
        swapping();
        dropping();
        refusedRaw();
        noneSuch();
        rawBefore();
        touches();
        touchesByMeter();
        minds();
        mindsOfOffAndRounding();
        DUE.end();
    }

    private static void dueRow(String what, WindHall x, int k, long r0, long r1, long r2) {
        DUE.due(what + ", METER 0", x.corrected(0, k), r0);
        DUE.due(what + ", METER 1", x.corrected(1, k), r1);
        DUE.due(what + ", METER 2", x.corrected(2, k), r2);
    }

    private static void room() {
        DUE.says(11, "CORRECTIONS (10) in an order");
        WindHall x = new WindHall();
        for (int n = 0; n < 10; n++) {
            DUE.due("number", x.correct(ZERO, n == 9 ? 10000 : n, 0, 0), n);
        }
        for (int n = 0; n < 3; n++) {
            DUE.due("the eleventh", x.correct(ZERO, 77, 77, 77), FULL);
            DUE.due("there are", x.count(1), 10);
            dueRow("behind ten", x, 10, -10036, 0, 0);
            dueRow("behind eleven there is none", x, 11, 0, 0, 0);
        }
        DUE.due("the last goes", x.drop(), 9);
        DUE.due("its room is free", x.correct(ZERO, 1, 1, 1), 9);
        dueRow("behind ten", x, 10, -37, -1, -1);
        DUE.due("full again", x.correct(ZERO, 1, 1, 1), FULL);
    }

    private static void onAtFirst() {
        DUE.says(11, "each on or off (on at first)");
        WindHall x = new WindHall();
        for (int n = 0; n < 10; n++) {
            x.correct(ZERO, 1, 0, 0);
            DUE.due("on", x.turn(n, false), 1);
            DUE.due("off", x.turn(n, false), 0);
        }
        for (int n = 9; n >= 0; n--) {
            x.drop();
        }
        for (int n = 0; n < 10; n++) {
            x.correct(ZERO, 1, 0, 0);
            DUE.due("a later one at an off one's place is on", x.corrected(0, n + 1), -n - 1);
        }
    }

    private static void kinds() {
        DUE.says(11, "0 ZERO: less u, v, w.");
        WindHall x = new WindHall();
        DUE.due("kind -1", x.correct(-1, 1, 1, 1), BAD);
        DUE.due("kind 5", x.correct(5, 1, 1, 1), BAD);
        DUE.due("none came", x.count(1), 0);
        for (int kind = 0; kind <= 4; kind++) {
            DUE.due("kind " + kind, x.correct(kind, 1, 1, 1), kind);
        }
        DUE.due("kind 5", x.correct(5, 1, 1, 1), BAD);
    }

    private static void numbersOfAllButWall() {
        DUE.says(11, "u, v, w -10000 to 10000.");
        for (int kind : new int[] {ZERO, DRIFT, PROP, WEIGHT}) {
            for (int end : new int[] {-10000, 10000}) {
                int beyond = end + Integer.signum(end);
                WindHall x = new WindHall();
                DUE.due("u " + end, x.correct(kind, end, 0, 0), 0);
                DUE.due("v " + end, x.correct(kind, 0, end, 0), 1);
                DUE.due("w " + end, x.correct(kind, 0, 0, end), 2);
                DUE.due("u " + beyond, x.correct(kind, beyond, 0, 0), BAD);
                DUE.due("v " + beyond, x.correct(kind, 0, beyond, 0), BAD);
                DUE.due("w " + beyond, x.correct(kind, 0, 0, beyond), BAD);
                DUE.due("there are", x.count(1), 3);
            }
        }
    }

    private static void numbersOfWall() {
        DUE.says(11, "v, w not looked at (u -300 to 300)");
        WindHall x = new WindHall();
        DUE.due("u 301", x.correct(WALL, 301, 0, 0), BAD);
        DUE.due("u -301", x.correct(WALL, -301, 0, 0), BAD);
        DUE.due("u 10000", x.correct(WALL, 10000, 0, 0), BAD);
        DUE.due("none came", x.count(1), 0);
        DUE.due("u 300", x.correct(WALL, 300, 0, 0), 0);
        DUE.due("u -300", x.correct(WALL, -300, 0, 0), 1);
        DUE.due("v, w at 10001", x.correct(WALL, 100, 10001, -10001), 2);
        DUE.due("v, w far away", x.correct(WALL, 100, MIN, MAX), 3);
        x.raw(10, -20, 30, 1000, 23);
        dueRow("by 300", x, 1, 30, -60, 90);
        dueRow("by -300", x, 2, -90, 180, -270);
        dueRow("by 100, whatever v, w are", x, 4, -90, 180, -270);
    }

    private static void timeAndAngle() {
        DUE.says(15, "at a TIME (0 to 1000) and an ANGLE (0 to 23, steps of 15 degrees)");
        WindHall x = new WindHall();
        x.correct(DRIFT, 1000, 0, 0);
        x.correct(WEIGHT, 1000, 0, 0);
        DUE.due("the first", x.raw(0, 0, 0, 0, 0), 1);
        dueRow("at the first", x, 2, -2000, 0, 0);
        DUE.due("TIME -1", x.raw(9, 9, 9, -1, 0), BAD);
        DUE.due("ANGLE -1", x.raw(9, 9, 9, 0, -1), BAD);
        dueRow("at the first still", x, 2, -2000, 0, 0);
        DUE.due("the last", x.raw(0, 0, 0, 1000, 23), 1);
        dueRow("at the last", x, 2, -2966, 259, 0);
        DUE.due("TIME 1001", x.raw(9, 9, 9, 1001, 0), BAD);
        DUE.due("ANGLE 24", x.raw(9, 9, 9, 0, 24), BAD);
        dueRow("at the last still", x, 2, -2966, 259, 0);
    }

    private static void zeroAndProp() {
        DUE.says(11, "2 PROP: as ZERO, twice.");
        for (int end : new int[] {-10000, 10000, -1, 1, 0}) {
            WindHall x = new WindHall();
            x.correct(ZERO, end, -end, end);
            x.correct(PROP, end, -end, end);
            x.raw(2000000, -2000000, -2000000, 777, 7);
            dueRow("ZERO of " + end, x, 1, 2000000 - end, -2000000 + end, -2000000 - end);
            dueRow("PROP of " + end, x, 2, 2000000 - 3 * end, -2000000 + 3 * end, -2000000 - 3 * end);
        }
    }

    private static void drift() {
        DUE.says(11, "less u, v, w times TIME by 1000 (rounded down), each.");
        int[][] cases = {{1, 0, 1}, {1, 999, 1}, {1, 1000, 2}, {-1, 0, -1}, {-1, 1, -2}, {-1, 999, -2}, {-1, 1000, -2},
            {2, 499, 2}, {2, 500, 3}, {-2, 500, -3}, {-2, 501, -4}, {0, 1000, 0}, {10000, 0, 10000}, {10000, 1, 10010},
            {10000, 1000, 20000}, {-10000, 1000, -20000}, {9999, 999, 9999 + 9989}, {-9999, 999, -9999 - 9990}};
        for (int[] c : cases) {
            WindHall x = new WindHall();
            x.correct(DRIFT, c[0], 0, 0);
            x.correct(DRIFT, 0, c[0], 0);
            x.correct(DRIFT, 0, 0, c[0]);
            x.raw(0, 0, 0, c[1], 11);
            dueRow("u " + c[0] + " at " + c[1], x, 1, -c[2], 0, 0);
            dueRow("v " + c[0] + " at " + c[1], x, 2, -c[2], -c[2], 0);
            dueRow("w " + c[0] + " at " + c[1], x, 3, -c[2], -c[2], -c[2]);
        }
    }

    private static void wall() {
        DUE.says(11, "3 WALL: each times u by 100 (rounded down)");
        for (int u : new int[] {-300, -299, -100, -99, -1, 0, 1, 99, 100, 101, 299, 300}) {
            for (int r : new int[] {-2000000, -101, -100, -99, -1, 0, 1, 99, 100, 101, 2000000}) {
                WindHall x = new WindHall();
                x.correct(WALL, u, 5, 5);
                x.raw(r, -r, r / 2, 3, 3);
                dueRow(r + " times " + u, x, 1, down((long) r * u, 100), down((long) -r * u, 100), down((long) (r / 2) * u, 100));
            }
        }
        WindHall x = new WindHall();
        for (int n = 0; n < 10; n++) {
            x.correct(WALL, n == 9 ? -300 : 300, 0, 0);
        }
        x.raw(2000000, -2000000, 1, 0, 0);
        dueRow("ten times 3", x, 10, -118098000000L, 118098000000L, -59049);
        dueRow("nine times 3", x, 9, 39366000000L, -39366000000L, 19683);
    }

    private static long down(long dividend, long divisor) {
        long whole = dividend / divisor;
        return whole * divisor > dividend ? whole - 1 : whole;
    }

    private static int cos(int k) {
        if (k > 12) {
            return cos(24 - k);
        }
        return k > 6 ? -QUARTER[12 - k] : QUARTER[k];
    }

    private static void weight() {
        DUE.says(11, "of 12 - k that of k with the other sign, of 24 - k that of k; SIN of k that COS of the step k - 6 (24 more below 0)");
        for (int angle = 0; angle < 24; angle++) {
            int sin = cos(angle < 6 ? angle + 18 : angle - 6);
            for (int u : new int[] {-10000, -1001, -1, 0, 1, 999, 10000}) {
                WindHall x = new WindHall();
                x.correct(WEIGHT, u, -10000, 10000);
                x.raw(5, 6, 7, 1000, angle);
                dueRow("u " + u + " at " + angle, x, 1, 5 - down((long) u * cos(angle), 1000), 6 - down((long) u * sin, 1000), 10007);
            }
        }
    }

    private static void turning() {
        DUE.says(12, "A CORRECTION is on or off: whether it was on (1, 0). BAD.");
        WindHall x = new WindHall();
        DUE.due("of none", x.turn(0, true), BAD);
        for (int n = 1; n <= 10; n++) {
            x.correct(ZERO, 1, 0, 0);
            DUE.due("the first", x.turn(0, true), 1);
            DUE.due("the last", x.turn(n - 1, true), 1);
            DUE.due("behind the last", x.turn(n, false), BAD);
            DUE.due("ahead of the first", x.turn(-1, false), BAD);
            DUE.due("none is off", x.corrected(0, n), -n);
        }
        DUE.due("the last is off", x.turn(9, false), 1);
        DUE.due("it was off", x.turn(9, false), 0);
        DUE.due("it was off", x.turn(9, true), 0);
        DUE.due("it was on", x.turn(9, true), 1);
        x.drop();
        DUE.due("the dropped one", x.turn(9, true), BAD);
    }

    private static void swapping() {
        DUE.says(13, "CORRECTIONS k and k + 1 change places: 1. BAD.");
        WindHall x = new WindHall();
        DUE.due("of none", x.swap(0), BAD);
        DUE.due("of none", x.swap(-1), BAD);
        x.correct(ZERO, 0, 0, 1);
        DUE.due("of one", x.swap(0), BAD);
        DUE.due("of one", x.swap(-1), BAD);
        for (int n = 1; n < 10; n++) {
            x.correct(ZERO, 0, 0, n + 1);
            DUE.due("the last two", x.swap(n - 1), 1);
            DUE.due("and back", x.swap(n - 1), 1);
            DUE.due("the last alone", x.swap(n), BAD);
        }
        DUE.due("the first two", x.swap(0), 1);
        DUE.due("the first is the second", x.corrected(2, 1), -2);
        DUE.due("both", x.corrected(2, 2), -3);
        DUE.due("the last two", x.swap(8), 1);
        DUE.due("the ninth is the tenth", x.corrected(2, 9), -36 - 10);
        DUE.due("all", x.corrected(2, 10), -55);
        for (int k : new int[] {-1, 9, 10, MIN, MAX}) {
            DUE.due("of " + k, x.swap(k), BAD);
        }
        DUE.due("refused ones change nothing", x.corrected(2, 9), -36 - 10);
    }

    private static void dropping() {
        DUE.says(14, "The last CORRECTION goes: its number. NONE.");
        WindHall x = new WindHall();
        DUE.due("of none", x.drop(), NONE);
        for (int n = 0; n < 10; n++) {
            x.correct(ZERO, 1, 2, 3);
        }
        for (int n = 9; n >= 0; n--) {
            DUE.due("its number", x.drop(), n);
            DUE.due("there are", x.count(1), n);
            dueRow("behind the others", x, n, -n, -2 * n, -3 * n);
            dueRow("it is gone", x, n + 1, 0, 0, 0);
        }
        DUE.due("of none", x.drop(), NONE);
        DUE.due("of none again", x.drop(), NONE);
        DUE.due("there are", x.count(1), 0);
        DUE.due("from 0 again", x.correct(ZERO, 1, 2, 3), 0);
    }

    private static void refusedRaw() {
        DUE.says(15, "READINGS (each -2000000 to 2000000) at a TIME, an ANGLE, to be corrected: 1. BAD.");
        WindHall x = new WindHall();
        DUE.due("at the ends", x.raw(2000000, -2000000, 2000000, 1000, 23), 1);
        x.correct(ZERO, -10000, 10000, 0);
        int[][] wrong = {{2000001, 1, 1}, {-2000001, 1, 1}, {1, 2000001, 1}, {1, -2000001, 1}, {1, 1, 2000001}, {1, 1, -2000001}};
        for (int[] w : wrong) {
            DUE.due("beyond", x.raw(w[0], w[1], w[2], 5, 5), BAD);
            dueRow("it stays", x, 1, 2010000, -2010000, 2000000);
        }
        DUE.due("at the other ends", x.raw(-2000000, 2000000, -2000000, 0, 0), 1);
        dueRow("at the other ends", x, 1, -1990000, 1990000, -2000000);
    }

    private static void noneSuch() {
        DUE.says(16, "0 also: there is none such.");
        WindHall x = new WindHall();
        x.raw(5, 6, 7, 8, 9);
        for (int n = 0; n <= 10; n++) {
            dueRow("the last k", x, n, 5 - n, 6 - n, 7 - n);
            dueRow("one more", x, n + 1, 0, 0, 0);
            dueRow("below 0", x, -1, 0, 0, 0);
            DUE.due("i -1", x.corrected(-1, n), 0);
            DUE.due("i 3", x.corrected(3, n), 0);
            DUE.due("i 4", x.corrected(4, n), 0);
            x.correct(ZERO, 1, 1, 1);
        }
        for (int far : new int[] {MIN, MAX}) {
            DUE.due("i " + far, x.corrected(far, 0), 0);
            DUE.due("k " + far, x.corrected(0, far), 0);
        }
    }

    private static void rawBefore() {
        DUE.says(16, "(0, 0, 0 at TIME 0, ANGLE 0 before.)");
        WindHall x = new WindHall();
        dueRow("behind none", x, 0, 0, 0, 0);
        x.correct(DRIFT, -1, 1000, 10000);
        dueRow("at TIME 0", x, 1, 1, -1000, -10000);
        x.correct(WEIGHT, 1000, 0, 0);
        dueRow("at ANGLE 0", x, 2, -999, -1000, -10000);
        x.raw(0, 0, 0, 1001, 0);
        x.raw(0, 0, 0, 0, 24);
        dueRow("behind refused ones", x, 2, -999, -1000, -10000);
    }

    private static void touches() {
        DUE.says(17, "The first k so that corrected(.., k) is another one (of any METER), if CORRECTION c were off, or on, if it is off.");
        WindHall x = new WindHall();
        DUE.due("of none", x.touches(0), BAD);
        for (int n = 0; n < 10; n++) {
            x.correct(ZERO, 0, 0, 1);
            DUE.due("the last", x.touches(n), n + 1);
            DUE.due("the first", x.touches(0), 1);
            DUE.due("behind the last", x.touches(n + 1), BAD);
            DUE.due("ahead of the first", x.touches(-1), BAD);
        }
        for (int n = 0; n < 10; n++) {
            x.turn(n, false);
            DUE.due("off", x.touches(n), n + 1);
            DUE.due("it is off still", x.turn(n, false), 0);
        }
    }

    private static void touchesByMeter() {
        DUE.says(17, "BAD; NONE: in none.");
        int[][] none = {{ZERO, 0, 0, 0}, {DRIFT, 0, 0, 0}, {PROP, 0, 0, 0}, {WALL, 100, 5, 5}, {WEIGHT, 0, 0, 9}};
        int[][] one = {{ZERO, 1, 0, 0}, {ZERO, 0, 1, 0}, {ZERO, 0, 0, 1}, {DRIFT, -1, 0, 0}, {DRIFT, 0, 0, 1}, {PROP, 0, -1, 0},
            {WALL, 101, 0, 0}, {WALL, 99, 0, 0}, {WEIGHT, 0, 1, 0}, {WEIGHT, 1000, 0, 0}};
        for (boolean on : new boolean[] {true, false}) {
            for (int[] c : none) {
                DUE.due("kind " + c[0] + " of nothing", touchesOf(c, 0, 0, 1, on), NONE);
            }
            for (int[] c : one) {
                DUE.due("kind " + c[0] + " of little", touchesOf(c, 0, 0, 1000, on), 2);
            }
            // At ANGLE 1 both shares of a weight of 1 are rounded down to 0, those of -1 to -1.
            DUE.due("a weight of 1 at ANGLE 1", touchesOf(new int[] {WEIGHT, 1, 0, 0}, 0, 0, 0, 1, on), NONE);
            DUE.due("a weight of -1 at ANGLE 1", touchesOf(new int[] {WEIGHT, -1, 0, 0}, 0, 0, 0, 1, on), 2);
            DUE.due("a wall of 101 and 99", touchesOf(new int[] {WALL, 101, 0, 0}, 99, 0, 0, 0, on), NONE);
            DUE.due("a wall of 101 and 100", touchesOf(new int[] {WALL, 101, 0, 0}, 100, 0, 0, 0, on), 2);
            DUE.due("a wall of 101 and -1", touchesOf(new int[] {WALL, 101, 0, 0}, 0, -1, 0, 0, on), 2);
            DUE.due("a wall of 0 and 0", touchesOf(new int[] {WALL, 0, 0, 0}, 0, 0, 0, 0, on), NONE);
        }
    }

    private static int touchesOf(int[] c, int r0, int r1, int r2, boolean on) {
        return touchesOf(c, r0, r1, r2, 0, on);
    }

    /** Of a correction as the second of three, the last of which takes all away. */
    private static int touchesOf(int[] c, int r0, int r1, int r2, int angle, boolean on) {
        WindHall x = new WindHall();
        x.correct(WALL, 100, 0, 0);
        x.correct(c[0], c[1], c[2], c[3]);
        x.correct(WALL, 0, 0, 0);
        x.turn(1, on);
        x.raw(r0, r1, r2, 0, angle);
        return x.touches(1);
    }

    private static void minds() {
        DUE.says(18, "Whether CORRECTIONS c and c + 1 changing places would change what comes behind them (1, 0). BAD.");
        WindHall x = new WindHall();
        DUE.due("of none", x.minds(0), BAD);
        DUE.due("of none", x.minds(-1), BAD);
        for (int n = 0; n < 10; n++) {
            x.correct(n % 2 == 0 ? ZERO : WALL, 200, 0, 0);
            DUE.due("the last alone", x.minds(n), BAD);
            DUE.due("ahead of the first", x.minds(-1), BAD);
            if (n > 0) {
                DUE.due("the last two", x.minds(n - 1), 1);
                DUE.due("the first two", x.minds(0), 1);
            }
        }
        DUE.due("they did not change places", x.corrected(0, 2), -400);
        x = new WindHall();
        for (int n = 0; n < 10; n++) {
            x.correct(n % 3, 200, 300, -400);
        }
        for (int c = 0; c < 9; c++) {
            DUE.due("no one minds", x.minds(c), 0);
        }
        DUE.due("the last alone", x.minds(9), BAD);
    }

    private static void mindsOfOffAndRounding() {
        DUE.says(18, "would change what comes behind them (1, 0)");
        for (int i = 0; i < 3; i++) {
            WindHall x = new WindHall();
            x.correct(ZERO, i == 0 ? 1 : 0, i == 1 ? 1 : 0, i == 2 ? 1 : 0);
            x.correct(WALL, 200, 0, 0);
            x.correct(WALL, 0, 0, 0);
            DUE.due("METER " + i + " alone, lost further behind", x.minds(0), 1);
            x.turn(0, false);
            DUE.due("the first is off", x.minds(0), 0);
            x.turn(0, true);
            x.turn(1, false);
            DUE.due("the second is off", x.minds(0), 0);
            x.turn(0, false);
            DUE.due("both are off", x.minds(0), 0);
            x.turn(0, true);
            x.turn(1, true);
            DUE.due("both are on", x.minds(0), 1);
        }
        // 7 by 50 is 3 and by 33 then 0; 7 by 33 is 2 and by 50 then 1; of 5 both ways lead to 0.
        WindHall x = new WindHall();
        x.correct(WALL, 50, 0, 0);
        x.correct(WALL, 33, 0, 0);
        x.raw(0, 0, 7, 0, 0);
        DUE.due("by what is rounded", x.minds(0), 1);
        x.raw(0, 0, 5, 0, 0);
        DUE.due("by what is rounded", x.minds(0), 0);
    }
}
