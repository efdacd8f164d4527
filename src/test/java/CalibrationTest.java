/** Promises 7 to 10. */
public final class CalibrationTest {
    private static final Due DUE = new Due("CalibrationTest");
    private static final long BAD_FIT = -1000000000000L;

    public static void main(String[] args) {
        points();
        fitOfPointsOnALine();
        fitBetweenPoints();
        greatestNumbers();
        misses();
        forgetting();
        DUE.end();
    }

    private static void points() {
        WindHall x = new WindHall();
        int[][] wrong = {{51, 0, 0, 0, 0, 0}, {-51, 0, 0, 0, 0, 0}, {0, 51, 0, 0, 0, 0}, {0, -51, 0, 0, 0, 0},
            {0, 0, 51, 0, 0, 0}, {0, 0, -51, 0, 0, 0}, {0, 0, 0, 2000001, 0, 0}, {0, 0, 0, -2000001, 0, 0},
            {0, 0, 0, 0, 2000001, 0}, {0, 0, 0, 0, -2000001, 0}, {0, 0, 0, 0, 0, 2000001}, {0, 0, 0, 0, 0, -2000001}};
        for (int n = 1; n <= 12; n++) {
            DUE.due(7, "point", x.point(50, -50, 50, 2000000, -2000000, 2000000), n);
            DUE.due(36, "count 0", x.count(0), n);
        }
        for (int[] w : wrong) {
            DUE.due(7, "BAD ahead of FULL", x.point(w[0], w[1], w[2], w[3], w[4], w[5]), WindHall.BAD);
        }
        DUE.due(7, "point 13", x.point(0, 0, 0, 0, 0, 0), WindHall.FULL);
        DUE.due(36, "count 0", x.count(0), 12);
        DUE.due(10, "forget", x.forget(), 12);
        for (int[] w : wrong) {
            DUE.due(7, "point as not told", x.point(w[0], w[1], w[2], w[3], w[4], w[5]), WindHall.BAD);
        }
        DUE.due(7, "a point after forget", x.point(0, 0, 0, 0, 0, 0), 1);
    }

    private static void dueFit(WindHall x, int i, int j, long numerator, long denominator) {
        DUE.due(8, "fit numerator " + i + " " + j, x.fit(i, j, 0), numerator);
        DUE.due(8, "fit denominator " + i + " " + j, x.fit(i, j, 1), denominator);
    }

    private static void fitOfPointsOnALine() {
        WindHall x = new WindHall();
        dueFit(x, 0, 0, 0, 0);
        x.point(1, 2, 3, 100, 200, 300);
        x.point(2, 4, 6, 200, 400, 600);
        x.point(-3, -6, -9, 0, 0, 0);
        dueFit(x, 0, 0, 0, 0);
        x.point(0, 1, 0, 7, 7, 7);
        dueFit(x, 1, 1, 0, 0);
        x.point(0, 0, 1, 0, 0, 0);
        DUE.due(8, "the only one then", x.fit(0, 0, 1) > 0 ? 1 : 0, 1);
        int[][] wrong = {{-1, 0, 0}, {3, 0, 0}, {0, -1, 0}, {0, 3, 0}, {0, 0, -1}, {0, 0, 2}, {3, 3, 3}};
        for (int[] w : wrong) {
            DUE.due(8, "fit as not told", x.fit(w[0], w[1], w[2]), BAD_FIT);
        }
        x.forget();
        for (int[] w : wrong) {
            DUE.due(8, "fit as not told, without points", x.fit(w[0], w[1], w[2]), BAD_FIT);
        }
    }

    private static void fitBetweenPoints() {
        WindHall x = new WindHall();
        x.point(1, 0, 0, 100, -150, 0);
        x.point(1, 0, 0, 300, -151, 0);
        x.point(0, 2, 0, 0, 1, 50);
        x.point(0, 0, -4, 6, 0, 1000);
        dueFit(x, 0, 0, 2, 1);
        dueFit(x, 0, 1, 0, 1);
        dueFit(x, 0, 2, -3, 200);
        dueFit(x, 1, 0, -301, 200);
        dueFit(x, 1, 1, 1, 200);
        dueFit(x, 2, 1, 1, 4);
        dueFit(x, 2, 2, -5, 2);
        x.first(0, 0, 99);
        x.second(0, 0, 9);
        dueFit(x, 0, 0, 2, 1);
    }

    private static void greatestNumbers() {
        WindHall x = new WindHall();
        for (int n = 0; n < 4; n++) {
            x.point(50, 50, -50, 2000000, -2000000, 1999999);
            x.point(50, -50, 50, 2000000, -2000000, -1999999);
            x.point(-50, 50, 50, 2000000, -2000000, 1999998);
        }
        dueFit(x, 0, 0, 400, 1);
        dueFit(x, 0, 2, 400, 1);
        dueFit(x, 1, 1, -400, 1);
        dueFit(x, 2, 0, 0, 1);
        dueFit(x, 2, 1, 3999997, 10000);
        dueFit(x, 2, 2, -1, 10000);
    }

    private static void misses() {
        WindHall x = new WindHall();
        x.point(1, 0, 0, 900, 50, 0);
        x.point(0, 0, 2, 30, 0, 2000);
        DUE.due(9, "miss 0", x.miss(0), 100);
        DUE.due(9, "miss 1", x.miss(1), 50);
        DUE.due(9, "miss 2", x.miss(2), 0);
        x.second(2, 5, 20);
        DUE.due(9, "miss 2 by second", x.miss(2), 80);
        x.first(0, 0, 9);
        DUE.due(9, "miss 0 by first", x.miss(0), 30);
        DUE.due(9, "miss -1", x.miss(-1), WindHall.BAD);
        DUE.due(9, "miss 3", x.miss(3), WindHall.BAD);
        x.forget();
        DUE.due(9, "miss without points", x.miss(0), WindHall.NONE);
        DUE.due(9, "BAD ahead of NONE", x.miss(3), WindHall.BAD);
    }

    private static void forgetting() {
        WindHall x = new WindHall();
        x.point(1, 0, 0, 100, 0, 0);
        x.point(0, 1, 0, 0, 100, 0);
        x.point(0, 0, 1, 0, 0, 100);
        DUE.due(10, "forget", x.forget(), 3);
        DUE.due(10, "forget again", x.forget(), 0);
        DUE.due(36, "count 0", x.count(0), 0);
        dueFit(x, 0, 0, 0, 0);
        x.point(2, 0, 0, 100, 0, 0);
        dueFit(x, 0, 0, 0, 0);
        DUE.due(9, "miss of the new point alone", x.miss(1), 0);
    }
}
