/** Promises 19 to 23. */
public final class ProgramTest {
    private static final Due DUE = new Due("ProgramTest");

    public static void main(String[] args) {
        places();
        doing();
        movesOfAllPlaces();
        leastRowOfSeveral();
        orders();
        fullProgram();
        DUE.end();
    }

    private static void places() {
        WindHall x = new WindHall();
        for (int n = 0; n < 9; n++) {
            DUE.due(19, "place", x.place(n == 0 ? 23 : n, 9 - n), n);
            DUE.due(36, "count 2", x.count(2), n + 1);
        }
        int[][] wrong = {{-1, 0}, {24, 0}, {0, -1}, {0, 10}, {Integer.MIN_VALUE, 0}, {0, Integer.MAX_VALUE}};
        for (int[] w : wrong) {
            DUE.due(19, "BAD ahead of FULL", x.place(w[0], w[1]), WindHall.BAD);
            DUE.due(19, "place as not told", new WindHall().place(w[0], w[1]), WindHall.BAD);
        }
        DUE.due(19, "place 10", x.place(0, 0), WindHall.FULL);
        DUE.due(36, "count 2", x.count(2), 9);
    }

    private static void doing() {
        WindHall x = new WindHall();
        DUE.due(20, "done of none", x.done(0, true), WindHall.BAD);
        x.place(1, 0);
        x.place(2, 0);
        DUE.due(20, "not done at first", x.done(1, true), 0);
        DUE.due(36, "count 3", x.count(3), 1);
        DUE.due(20, "done then", x.done(1, true), 1);
        DUE.due(22, "least of the other", x.least(), 3);
        DUE.due(20, "not done again", x.done(1, false), 1);
        DUE.due(36, "count 3", x.count(3), 0);
        DUE.due(22, "least of both", x.least(), 6);
        DUE.due(20, "done -1", x.done(-1, true), WindHall.BAD);
        DUE.due(20, "done 2", x.done(2, true), WindHall.BAD);
    }

    private static void movesOfAllPlaces() {
        for (int angle = 0; angle < 24; angle++) {
            WindHall x = new WindHall();
            x.place(5, 4);
            x.place(angle, 9);
            int steps = 0;
            while ((5 + steps) % 24 != angle && (5 - steps + 24) % 24 != angle) {
                steps++;
            }
            DUE.due(21, "moves to " + angle, x.moves(0, 1), 3 * steps + 35);
            DUE.due(21, "moves from " + angle, x.moves(1, 0), 3 * steps + 35);
            DUE.due(21, "moves from one to itself", x.moves(1, 1), 0);
            x.done(1, true);
            DUE.due(21, "moves to one that is done", x.moves(0, 1), 3 * steps + 35);
            DUE.due(21, "moves from -1", x.moves(-1, 0), WindHall.BAD);
            DUE.due(21, "moves to -1", x.moves(0, -1), WindHall.BAD);
            DUE.due(21, "moves from 2", x.moves(2, 0), WindHall.BAD);
            DUE.due(21, "moves to 2", x.moves(0, 2), WindHall.BAD);
            DUE.due(21, "moves far", x.moves(9, Integer.MAX_VALUE), WindHall.BAD);
        }
    }

    private static void leastRowOfSeveral() {
        WindHall x = new WindHall();
        x.place(0, 1);
        x.place(0, 0);
        x.place(0, 1);
        x.place(0, 0);
        DUE.due(22, "least", x.least(), 7);
        dueOrder(x, 1, 3, 0, 2);
        x = new WindHall();
        x.place(12, 0);
        x.place(23, 0);
        x.place(1, 0);
        // both ways round cost the same: 1, 2, 0 and 2, 1, 0.
        DUE.due(22, "least", x.least(), 42);
        dueOrder(x, 1, 2, 0);
        x = new WindHall();
        x.place(6, 0);
        x.place(18, 0);
        DUE.due(22, "least", x.least(), 54);
        dueOrder(x, 0, 1);
    }

    private static void dueOrder(WindHall x, int... row) {
        for (int i = 0; i < row.length; i++) {
            DUE.due(23, "order " + i, x.order(i), row[i]);
        }
        DUE.due(23, "order behind the last", x.order(row.length), WindHall.NONE);
    }

    private static void orders() {
        WindHall x = new WindHall();
        DUE.due(23, "order -1", x.order(-1), WindHall.BAD);
        DUE.due(23, "order far below", x.order(Integer.MIN_VALUE), WindHall.BAD);
        DUE.due(23, "order of none", x.order(0), WindHall.NONE);
        x.place(9, 0);
        x.place(2, 0);
        dueOrder(x, 1, 0);
        x.place(5, 0);
        dueOrder(x, 1, 2, 0);
        x.done(2, true);
        dueOrder(x, 1, 0);
        x.done(1, true);
        dueOrder(x, 0);
        x.done(0, true);
        dueOrder(x);
        DUE.due(22, "all are done", x.least(), 0);
        x.done(1, false);
        dueOrder(x, 1);
        DUE.due(22, "least of one", x.least(), 6);
        DUE.due(23, "order far", x.order(Integer.MAX_VALUE), WindHall.NONE);
        DUE.due(23, "order below 0", x.order(-1), WindHall.BAD);
    }

    private static void fullProgram() {
        WindHall x = new WindHall();
        int[] angles = {20, 4, 18, 2, 16, 6, 22, 14, 8};
        for (int angle : angles) {
            x.place(angle, 0);
        }
        // 2, 4, 6, 8, then on past 12 to 14 and up to 22.
        DUE.due(22, "least of nine", x.least(), 66);
        dueOrder(x, 3, 1, 5, 8, 7, 4, 2, 0, 6);
        DUE.due(19, "place 10", x.place(0, 0), WindHall.FULL);
        dueOrder(x, 3, 1, 5, 8, 7, 4, 2, 0, 6);
    }
}
