/** The sentences on settling that name an edge: promises 24 to 27. */
public final class EdgesOfSettlingTest {
    private static final Due DUE = new Due("EdgesOfSettlingTest");
    private static final int BAD = WindHall.BAD, STATE = WindHall.STATE, NONE = WindHall.NONE;
    private static final int WAITS = 0, SETTLED = 1, OVERLOADED = 2, TIRED = 3;

    public static void main(String[] args) {
        ruleAtFirst();
        ruleAtItsEnds();
        ruleFromEachState();
        atMostD();
        theLatestN();
        meterByMeter();
        beyondLimit();
        meterZeroFirst();
        itStops();
        mostCame();
        overloadedAheadOfAll();
        comeRefused();
        whatIsSettled();
        sumsOfTheLatest();
        anewFromEachState();
        DUE.end();
    }

    private static WindHall ruled(int n, int d, int most, int limit) {
        WindHall x = new WindHall();
        DUE.due("rule", x.rule(n, d, most, limit), 1);
        return x;
    }

    private static void come(WindHall x, int times, int r0, int r1, int r2, int state) {
        for (int k = 0; k < times; k++) {
            DUE.due("come " + r0 + " " + r1 + " " + r2, x.come(r0, r1, r2), state);
        }
    }

    private static void dueSettled(WindHall x, int... want) {
        for (int what = 0; what < 6; what++) {
            DUE.due("settled " + what, x.settled(what), want[what]);
        }
    }

    private static void ruleAtFirst() {
        DUE.says(1, "(N 4, D 10, MOST 20, LIMIT 1000000 at first.)");
        WindHall x = new WindHall();
        come(x, 3, 0, 0, 0, WAITS);
        come(x, 1, 10, -10, 10, SETTLED);
        x = new WindHall();
        come(x, 3, 0, 0, 0, WAITS);
        come(x, 1, 0, 0, 11, WAITS);
        come(x, 2, 11, 0, 0, WAITS);
        x = new WindHall();
        for (int k = 1; k < 20; k++) {
            come(x, 1, 0, k % 2 == 0 ? 0 : -11, 0, WAITS);
        }
        come(x, 1, 0, 0, 0, TIRED);
        x = new WindHall();
        come(x, 1, 1000000, -1000000, 1000000, WAITS);
        come(x, 1, 0, -1000001, 0, OVERLOADED);
    }

    private static void ruleAtItsEnds() {
        DUE.says(24, "N (1 to 8), D (0 to 100000), MOST (1 to 100), LIMIT (1 to 2000000): 1");
        int[] base = {2, 3, 4, 50};
        int[][] ends = {{1, 8}, {0, 100000}, {1, 100}, {1, 2000000}};
        for (int n = 0; n < 4; n++) {
            for (int end = 0; end < 2; end++) {
                int[] r = base.clone();
                r[n] = ends[n][end];
                WindHall x = new WindHall();
                DUE.due("number " + n + " being " + r[n], x.rule(r[0], r[1], r[2], r[3]), 1);
                r[n] += end == 0 ? -1 : 1;
                DUE.due("number " + n + " being " + r[n], x.rule(r[0], r[1], r[2], r[3]), BAD);
            }
        }
        WindHall x = ruled(1, 0, 1, 1);
        come(x, 1, 1, -1, 0, SETTLED);
        x = ruled(8, 100000, 100, 2000000);
        come(x, 7, 2000000, 0, -2000000, WAITS);
        come(x, 1, 1900000, 100000, -2000000, SETTLED);
    }

    private static void ruleFromEachState() {
        DUE.says(24, "it WAITS anew, none came. BAD.");
        for (int state = 0; state < 4; state++) {
            WindHall x = hallIn(state);
            int came = x.settled(1);
            DUE.due("a refused rule", x.rule(2, 1, 2, 0), BAD);
            DUE.due("the state stays", x.settled(0), state);
            DUE.due("so many came still", x.settled(1), came);
            DUE.due("rule", x.rule(2, 1, 2, 9), 1);
            dueSettled(x, WAITS, 0, NONE, 0, 0, 0);
            come(x, 1, 9, 9, 9, WAITS);
            come(x, 1, 9, 9, 9, SETTLED);
        }
    }

    /** A hall in a STATE behind two or three that came. */
    private static WindHall hallIn(int state) {
        WindHall x = new WindHall();
        x.rule(state == SETTLED ? 2 : 3, 0, 3, 100);
        x.come(9, 9, 9);
        x.come(9, 9, state == OVERLOADED ? 101 : 9);
        if (state == TIRED) {
            x.come(9, 9, 8);
        }
        return x;
    }

    private static void atMostD() {
        DUE.says(25, "1 SETTLED: the latest N are at most D from one another");
        for (int d : new int[] {0, 1, 100000}) {
            for (int i = 0; i < 3; i++) {
                for (int sign = -1; sign <= 1; sign += 2) {
                    int[] at = new int[3];
                    at[i] = sign * d;
                    WindHall x = ruled(3, d, 9, 2000000);
                    come(x, 2, 0, 0, 0, WAITS);
                    come(x, 1, at[0], at[1], at[2], SETTLED);
                    at[i] += sign;
                    x = ruled(3, d, 9, 2000000);
                    come(x, 2, 0, 0, 0, WAITS);
                    come(x, 1, at[0], at[1], at[2], WAITS);
                    // The first and the last of three, with one between them.
                    x = ruled(3, d, 9, 2000000);
                    come(x, 1, 0, 0, 0, WAITS);
                    come(x, 1, at[0] / 2, at[1] / 2, at[2] / 2, WAITS);
                    come(x, 1, at[0], at[1], at[2], WAITS);
                }
            }
        }
        WindHall x = ruled(2, 100000, 9, 2000000);
        come(x, 1, -2000000, 0, 0, WAITS);
        come(x, 1, 2000000, 0, 0, WAITS);
        come(x, 1, 1900000, 0, 0, SETTLED);
    }

    private static void theLatestN() {
        DUE.says(25, "the latest N");
        for (int n = 1; n <= 8; n++) {
            WindHall x = ruled(n, 5, 100, 2000000);
            come(x, n - 1, 7, 7, 7, WAITS);
            if (n > 1) {
                come(x, 1, 7, 7, 13, WAITS);
                come(x, n - 2, 8, 7, 8, WAITS);
                come(x, 1, 8, 7, 8, SETTLED);
            } else {
                come(x, 1, 7, 7, 7, SETTLED);
            }
            DUE.due("so many came", x.settled(1), n > 1 ? 2 * n - 1 : 1);
        }
    }

    private static void meterByMeter() {
        DUE.says(25, "METER by METER");
        WindHall x = ruled(2, 0, 9, 2000000);
        come(x, 1, -2000000, 0, 2000000, WAITS);
        come(x, 1, -2000000, 0, 2000000, SETTLED);
        for (int i = 0; i < 3; i++) {
            x = ruled(2, 0, 9, 2000000);
            come(x, 1, 5, 5, 5, WAITS);
            come(x, 1, i == 0 ? 6 : 5, i == 1 ? 6 : 5, i == 2 ? 6 : 5, WAITS);
        }
    }

    private static void beyondLimit() {
        DUE.says(25, "2 OVERLOADED: one is beyond LIMIT");
        for (int limit : new int[] {1, 2, 1000000, 1999999}) {
            for (int i = 0; i < 3; i++) {
                for (int sign = -1; sign <= 1; sign += 2) {
                    int[] r = new int[3];
                    r[i] = sign * limit;
                    WindHall x = ruled(8, 0, 9, limit);
                    come(x, 1, r[0], r[1], r[2], WAITS);
                    r[i] += sign;
                    come(x, 1, r[0], r[1], r[2], OVERLOADED);
                    dueSettled(x, OVERLOADED, 2, i, 0, 0, 0);
                }
            }
        }
        WindHall x = ruled(8, 0, 9, 2000000);
        come(x, 1, 2000000, -2000000, 2000000, WAITS);
    }

    private static void meterZeroFirst() {
        DUE.says(25, "of METER 0 first: it stops");
        int[][] rows = {{9, 9, 9, 0}, {9, 9, 0, 0}, {-9, 0, 9, 0}, {0, 9, 9, 1}, {0, -9, 9, 1}, {0, 0, 9, 2}, {8, -8, -9, 2}};
        for (int[] r : rows) {
            WindHall x = ruled(1, 0, 9, 8);
            come(x, 1, r[0], r[1], r[2], OVERLOADED);
            DUE.due("the METER", x.settled(2), r[3]);
        }
    }

    private static void itStops() {
        DUE.says(25, "READINGS come: the STATE then. BAD; STATE: it is not 0.");
        for (int state = 1; state < 4; state++) {
            WindHall x = hallIn(state);
            int[] before = new int[6];
            for (int what = 0; what < 6; what++) {
                before[what] = x.settled(what);
            }
            DUE.due("it is in", before[0], state);
            DUE.due("come", x.come(9, 9, 9), STATE);
            DUE.due("come beyond LIMIT", x.come(2000000, 9, 9), STATE);
            DUE.due("BAD is first", x.come(2000001, 9, 9), BAD);
            DUE.due("BAD is first", x.come(9, 9, -2000001), BAD);
            dueSettled(x, before);
        }
    }

    private static void mostCame() {
        DUE.says(25, "3 TIRED: MOST came, not SETTLED.");
        for (int most : new int[] {1, 2, 7, 8, 9, 100}) {
            WindHall x = ruled(2, 0, most, 2000000);
            for (int k = 1; k < most; k++) {
                come(x, 1, k, 0, 0, WAITS);
            }
            come(x, 1, most, 0, 0, TIRED);
            dueSettled(x, TIRED, most, NONE, 0, 0, 0);
            x = ruled(2, 0, most, 2000000);
            for (int k = 1; k < most; k++) {
                come(x, 1, k, 0, 0, WAITS);
            }
            come(x, 1, most - 1, 0, 0, most == 1 ? TIRED : SETTLED);
        }
        WindHall x = ruled(8, 0, 7, 2000000);
        come(x, 6, 5, 5, 5, WAITS);
        come(x, 1, 5, 5, 5, TIRED);
        x = ruled(8, 0, 8, 2000000);
        come(x, 7, 5, 5, 5, WAITS);
        come(x, 1, 5, 5, 5, SETTLED);
        x = ruled(1, 0, 1, 2000000);
        come(x, 1, 5, 5, 5, SETTLED);
    }

    private static void overloadedAheadOfAll() {
        DUE.says(25, "0 WAITS, 1 SETTLED");
        WindHall x = ruled(1, 0, 1, 5);
        come(x, 1, 0, 6, 0, OVERLOADED);
        x = ruled(2, 100000, 2, 5);
        come(x, 1, 5, 5, 5, WAITS);
        come(x, 1, 5, 5, 6, OVERLOADED);
        dueSettled(x, OVERLOADED, 2, 2, 0, 0, 0);
    }

    private static void comeRefused() {
        DUE.says(25, "READINGS come: the STATE then. BAD");
        WindHall x = ruled(2, 0, 2, 2000000);
        int[][] wrong = {{2000001, 0, 0}, {-2000001, 0, 0}, {0, 2000001, 0}, {0, -2000001, 0}, {0, 0, 2000001}, {0, 0, -2000001},
            {Integer.MIN_VALUE, 0, 0}, {0, Integer.MIN_VALUE, 0}, {0, 0, Integer.MAX_VALUE}};
        come(x, 1, 7, 8, 9, WAITS);
        for (int[] w : wrong) {
            DUE.due("as not told", x.come(w[0], w[1], w[2]), BAD);
            dueSettled(x, WAITS, 1, NONE, 0, 0, 0);
        }
        come(x, 1, 7, 8, 9, SETTLED);
    }

    private static void whatIsSettled() {
        DUE.says(26, "2 the METER that was beyond (NONE)");
        for (int state = 0; state < 4; state++) {
            WindHall x = hallIn(state);
            DUE.due("the METER", x.settled(2), state == OVERLOADED ? 2 : NONE);
            DUE.due("0 is the first", x.settled(0), state);
            DUE.due("-1", x.settled(-1), BAD);
            DUE.due("5 is the last", x.settled(5), state == SETTLED ? 18 : 0);
            DUE.due("6", x.settled(6), BAD);
            DUE.due("far below", x.settled(Integer.MIN_VALUE), BAD);
            DUE.due("far above", x.settled(Integer.MAX_VALUE), BAD);
        }
    }

    private static void sumsOfTheLatest() {
        DUE.says(26, "3 the sum of READINGS 0 of the latest N, if SETTLED, 4, 5 of 1, 2 (else 0). BAD.");
        for (int n = 1; n <= 8; n++) {
            WindHall x = ruled(n, 100000, 100, 2000000);
            come(x, n - 1, 2000000, -2000000, 3, WAITS);
            DUE.due("else 0", x.settled(3), 0);
            DUE.due("else 0", x.settled(4), 0);
            DUE.due("else 0", x.settled(5), 0);
            come(x, 1, 1999999, -1999999, 4, SETTLED);
            dueSettled(x, SETTLED, n, NONE, 2000000 * n - 1, -2000000 * n + 1, 3 * n + 1);
        }
        WindHall x = ruled(3, 1, 100, 2000000);
        for (int k = 0; k < 20; k++) {
            come(x, 1, 100 * k, 7, -7, WAITS);
        }
        come(x, 1, 1901, 7, -7, WAITS);
        come(x, 1, 1900, 8, -6, SETTLED);
        dueSettled(x, SETTLED, 22, NONE, 5701, 22, -20);
    }

    private static void anewFromEachState() {
        DUE.says(27, "It WAITS anew: how many had come.");
        WindHall none = new WindHall();
        DUE.due("none had come", none.anew(), 0);
        for (int state = 0; state < 4; state++) {
            WindHall x = hallIn(state);
            DUE.due("had come", x.anew(), state == TIRED ? 3 : 2);
            dueSettled(x, WAITS, 0, NONE, 0, 0, 0);
            DUE.due("none had come", x.anew(), 0);
            come(x, 1, 9, 9, 9, WAITS);
            DUE.due("one had come", x.anew(), 1);
            // The rule stays as it is: those that came before do not help to settle.
            come(x, 1, 100, 9, 9, WAITS);
            come(x, 1, 101, 9, 9, OVERLOADED);
        }
        WindHall x = ruled(2, 0, 100, 2000000);
        for (int k = 0; k < 100; k++) {
            x.come(k, 0, 0);
        }
        DUE.due("as many as can come", x.anew(), 100);
    }
}
