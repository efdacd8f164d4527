/** Promises 2 to 6. */
public final class BalanceTest {
    private static final Due DUE = new Due("BalanceTest");

    public static void main(String[] args) {
        firstTerms();
        secondTerms();
        readings();
        roundsAreCounted();
        halvesGoUp();
        loadsAreHeld();
        negativeDeterminant();
        noOnlyOne();
        refusedBack();
        foundIsOfTheLatestBack();
        DUE.end();
    }

    private static void firstTerms() {
        WindHall x = new WindHall();
        for (int i = 0; i < 3; i++) {
            for (int j = 0; j < 3; j++) {
                DUE.due(2, "first", x.first(i, j, 10 * i + j - 7), 1);
            }
        }
        for (int i = 0; i < 3; i++) {
            DUE.due(2, "reading by first", x.reading(i, 1, 0, 0), 100 * (10 * i - 7));
            DUE.due(2, "reading by first", x.reading(i, 0, 1, 0), 100 * (10 * i - 6));
            DUE.due(2, "reading by first", x.reading(i, 0, 0, 1), 100 * (10 * i - 5));
        }
        DUE.due(2, "first 100", x.first(0, 0, 100), 1);
        DUE.due(2, "first -100", x.first(0, 1, -100), 1);
        int[][] wrong = {{-1, 0, 1}, {3, 0, 1}, {0, -1, 1}, {0, 3, 1}, {0, 0, 101}, {0, 0, -101},
            {Integer.MAX_VALUE, 0, 0}, {0, Integer.MIN_VALUE, 0}, {0, 0, Integer.MIN_VALUE}};
        for (int[] w : wrong) {
            DUE.due(2, "first as not told", x.first(w[0], w[1], w[2]), WindHall.BAD);
        }
        DUE.due(2, "what is refused changes nothing", x.reading(0, 1, 0, 0), 10000);
        DUE.due(2, "first -100 stands", x.reading(0, 0, 1, 0), -10000);
    }

    private static void secondTerms() {
        int[][] pairs = {{0, 0}, {0, 1}, {0, 2}, {1, 1}, {1, 2}, {2, 2}};
        int[] loads = {3, -5, 7};
        for (int i = 0; i < 3; i++) {
            for (int p = 0; p < 6; p++) {
                WindHall x = new WindHall();
                DUE.due(3, "second", x.second(i, p, 20), 1);
                int want = 1000 * loads[i] + 20 * loads[pairs[p][0]] * loads[pairs[p][1]];
                DUE.due(3, "reading by second " + p, x.reading(i, 3, -5, 7), want);
                int other = (i + 1) % 3;
                DUE.due(3, "another meter", x.reading(other, 3, -5, 7), 1000 * loads[other]);
            }
        }
        WindHall x = new WindHall();
        DUE.due(3, "second -20", x.second(2, 5, -20), 1);
        int[][] wrong = {{-1, 0, 1}, {3, 0, 1}, {0, -1, 1}, {0, 6, 1}, {2, 5, 21}, {2, 5, -21},
            {Integer.MIN_VALUE, 0, 0}, {0, Integer.MAX_VALUE, 0}, {0, 0, Integer.MAX_VALUE}};
        for (int[] w : wrong) {
            DUE.due(3, "second as not told", x.second(w[0], w[1], w[2]), WindHall.BAD);
        }
        DUE.due(3, "what is refused changes nothing", x.reading(2, 0, 0, 10), 10000 - 2000);
    }

    private static void readings() {
        WindHall x = new WindHall();
        for (int j = 0; j < 3; j++) {
            x.first(1, j, 100);
        }
        for (int p = 0; p < 6; p++) {
            x.second(1, p, 20);
        }
        DUE.due(4, "the greatest reading", x.reading(1, 50, 50, 50), 1500000 + 300000);
        DUE.due(4, "all loads below 0", x.reading(1, -50, -50, -50), -1500000 + 300000);
        int[][] wrong = {{-1, 0, 0, 0}, {3, 0, 0, 0}, {0, 51, 0, 0}, {0, -51, 0, 0}, {0, 0, 51, 0}, {0, 0, -51, 0},
            {0, 0, 0, 51}, {0, 0, 0, -51}, {Integer.MIN_VALUE, 0, 0, 0}, {0, Integer.MIN_VALUE, 0, 0}};
        for (int[] w : wrong) {
            DUE.due(4, "reading as not told", x.reading(w[0], w[1], w[2], w[3]), 9999999);
        }
    }

    private static void dueFound(WindHall x, int l0, int l1, int l2, int still, int away) {
        DUE.due(6, "found 0", x.found(0), l0);
        DUE.due(6, "found 1", x.found(1), l1);
        DUE.due(6, "found 2", x.found(2), l2);
        DUE.due(6, "found 3", x.found(3), still);
        DUE.due(6, "found 4", x.found(4), away);
        DUE.due(6, "found 5", x.found(5), 0);
        DUE.due(6, "found -1", x.found(-1), 0);
    }

    private static void roundsAreCounted() {
        WindHall x = new WindHall();
        DUE.due(5, "back of nothing", x.back(0, 0, 0, 50), 1);
        dueFound(x, 0, 0, 0, 1, 0);
        DUE.due(5, "one round alone", x.back(5000, 6000, -7000, 1), 1);
        dueFound(x, 5, 6, -7, 0, 0);
        DUE.due(5, "a second that changes nothing", x.back(5000, 6000, -7000, 2), 2);
        dueFound(x, 5, 6, -7, 1, 0);
        DUE.due(5, "the loads begin at 0 again", x.back(5123, 6000, -7000, 1), 1);
        dueFound(x, 5, 6, -7, 0, 123);
        // x becomes (50000 - 20 x x) by 1000: 50, 0, 50, 0 and so on.
        x.second(0, 0, 20);
        DUE.due(5, "rounds to and fro", x.back(50000, 0, 0, 7), 7);
        dueFound(x, 50, 0, 0, 0, 50000);
        DUE.due(5, "rounds to and fro", x.back(50000, 0, 0, 50), 50);
        dueFound(x, 0, 0, 0, 0, 50000);
    }

    private static void halvesGoUp() {
        int[][] cases = {{499, 0}, {500, 1}, {1499, 1}, {1500, 2}, {-500, 0}, {-501, -1}, {-1500, -1}, {-1501, -2}};
        for (int[] c : cases) {
            WindHall x = new WindHall();
            x.back(c[0], 0, 0, 9);
            DUE.due(5, "nearest to " + c[0], x.found(0), c[1]);
            x.first(1, 1, -10);
            x.back(0, -c[0], 0, 9);
            DUE.due(5, "nearest below 0 to " + c[0], x.found(1), c[1]);
        }
    }

    private static void loadsAreHeld() {
        WindHall x = new WindHall();
        DUE.due(5, "back beyond", x.back(2000000, -2000000, 50499, 9), 2);
        dueFound(x, 50, -50, 50, 1, 1950000);
        DUE.due(5, "back beyond", x.back(-2000000, 2000000, -50500, 9), 2);
        dueFound(x, -50, 50, -50, 1, 1950000);
    }

    private static void negativeDeterminant() {
        WindHall x = new WindHall();
        x.first(0, 0, 0);
        x.first(0, 1, 10);
        x.first(1, 0, 10);
        x.first(1, 1, 0);
        DUE.due(5, "meters crossed", x.back(3500, -4500, 1000, 9), 2);
        dueFound(x, -4, 4, 1, 1, 500);
    }

    private static void noOnlyOne() {
        WindHall x = new WindHall();
        x.back(1000, 2000, 3000, 9);
        x.first(2, 0, 20);
        x.first(2, 1, -30);
        x.first(2, 2, 0);
        DUE.due(5, "rows that depend", x.back(1000, 2000, 0, 9), WindHall.STATE);
        DUE.due(5, "rows that depend, with many x", x.back(0, 0, 0, 9), WindHall.STATE);
        DUE.due(5, "BAD ahead of STATE", x.back(0, 0, 0, 51), WindHall.BAD);
        dueFound(x, 1, 2, 3, 1, 0);
        x.first(2, 2, 1);
        DUE.due(5, "the only one again", x.back(0, 0, 0, 9), 1);
    }

    private static void refusedBack() {
        WindHall x = new WindHall();
        x.back(1000, 2000, 3300, 1);
        int[][] wrong = {{2000001, 0, 0, 1}, {-2000001, 0, 0, 1}, {0, 2000001, 0, 1}, {0, -2000001, 0, 1},
            {0, 0, 2000001, 1}, {0, 0, -2000001, 1}, {0, 0, 0, 0}, {0, 0, 0, 51}, {0, 0, 0, -1},
            {Integer.MIN_VALUE, 0, 0, 1}, {0, 0, 0, Integer.MAX_VALUE}};
        for (int[] w : wrong) {
            DUE.due(5, "back as not told", x.back(w[0], w[1], w[2], w[3]), WindHall.BAD);
        }
        dueFound(x, 1, 2, 3, 0, 300);
    }

    private static void foundIsOfTheLatestBack() {
        WindHall x = new WindHall();
        x.back(1100, 2000, 3000, 9);
        x.first(0, 0, 50);
        x.second(1, 3, 20);
        dueFound(x, 1, 2, 3, 1, 100);
    }
}
