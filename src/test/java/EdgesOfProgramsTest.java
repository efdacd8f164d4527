/** The sentences on programs that name an edge: promises 19 to 23. */
public final class EdgesOfProgramsTest {
    private static final Due DUE = new Due("EdgesOfProgramsTest");
    private static final int BAD = WindHall.BAD, FULL = WindHall.FULL, NONE = WindHall.NONE;
    private static final int MIN = Integer.MIN_VALUE, MAX = Integer.MAX_VALUE;

    public static void main(String[] args) {
        room();
        angleAndSpeed();
        shorterWayRound();
        fromTheStart();
        leastRowByNumbers();
        leastOfManyRows();
        doneOrNot();
        movesOfNone();
        allAreDone();
        orderOfNone();
        DUE.end();
    }

    private static WindHall hallOf(int... anglesAndSpeeds) {
        WindHall x = new WindHall();
        for (int n = 0; n < anglesAndSpeeds.length; n += 2) {
            x.place(anglesAndSpeeds[n], anglesAndSpeeds[n + 1]);
        }
        return x;
    }

    private static void dueOrder(String what, WindHall x, int... row) {
        for (int i = 0; i < row.length; i++) {
            DUE.due(what + ", order " + i, x.order(i), row[i]);
        }
        DUE.due(what + ", order behind the last", x.order(row.length), NONE);
    }

    private static void room() {
        DUE.says(19, "A PROGRAM: PLACES (9)");
        WindHall x = new WindHall();
        for (int n = 0; n < 9; n++) {
            DUE.due("number", x.place(n, 0), n);
            DUE.due("least", x.least(), 3 * n);
        }
        for (int n = 0; n < 3; n++) {
            DUE.due("the tenth", x.place(9, 9), FULL);
            DUE.due("there are", x.count(2), 9);
            DUE.due("the tenth is none", x.moves(9, 0), BAD);
            DUE.due("least of nine", x.least(), 24);
            dueOrder("of nine", x, 0, 1, 2, 3, 4, 5, 6, 7, 8);
        }
        for (int n = 0; n < 9; n++) {
            x.done(n, true);
        }
        DUE.due("what is done has its room still", x.place(9, 9), FULL);
    }

    private static void angleAndSpeed() {
        DUE.says(19, "each an ANGLE and a SPEED (0 to 9), done or not");
        WindHall x = new WindHall();
        DUE.due("ANGLE -1", x.place(-1, 0), BAD);
        DUE.due("ANGLE 24", x.place(24, 0), BAD);
        DUE.due("SPEED -1", x.place(0, -1), BAD);
        DUE.due("SPEED 10", x.place(0, 10), BAD);
        DUE.due("none came", x.count(2), 0);
        DUE.due("the least of both", x.place(0, 0), 0);
        DUE.due("the greatest of both", x.place(23, 9), 1);
        DUE.due("the move between", x.moves(0, 1), 3 + 63);
        DUE.due("not done", x.count(3), 0);
    }

    private static void shorterWayRound() {
        DUE.says(21, "3 for each step of ANGLE (the shorter way round), 7 for each of SPEED");
        for (int from = 0; from < 24; from++) {
            WindHall x = hallOf(from, 0, (from + 1) % 24, 9, (from + 11) % 24, 0, (from + 12) % 24, 9, (from + 13) % 24, 0, (from + 23) % 24, 1);
            int[] due = {0, 3 + 63, 33, 36 + 63, 33, 3 + 7};
            for (int q = 0; q < 6; q++) {
                DUE.due("from " + from + " to place " + q, x.moves(0, q), due[q]);
                DUE.due("to " + from + " from place " + q, x.moves(q, 0), due[q]);
                DUE.due("from one to itself", x.moves(q, q), 0);
            }
        }
        for (int speed = 0; speed < 10; speed++) {
            WindHall x = hallOf(0, 0, 0, speed, 0, 9);
            DUE.due("up to SPEED " + speed, x.moves(0, 1), 7 * speed);
            DUE.due("on from SPEED " + speed, x.moves(1, 2), 63 - 7 * speed);
        }
    }

    private static void fromTheStart() {
        DUE.says(22, "The ORDER: from ANGLE 0, SPEED 0 through all that are not done, with the least sum of MOVES");
        for (int angle = 0; angle < 24; angle++) {
            for (int speed = 0; speed < 10; speed++) {
                int due = 3 * (angle <= 12 ? angle : 24 - angle) + 7 * speed;
                WindHall x = hallOf(angle, speed);
                DUE.due("to " + angle + " " + speed, x.least(), due);
                DUE.due("the one place", x.order(0), 0);
                DUE.due("behind it", x.order(1), NONE);
            }
        }
        WindHall x = hallOf(12, 9, 12, 9, 12, 9, 12, 9, 12, 9, 12, 9, 12, 9, 12, 9, 12, 9);
        DUE.due("all at the farthest", x.least(), 99);
        // The way does not lead back to the start.
        DUE.due("both ways from the start", hallOf(1, 0, 22, 0).least(), 3 + 9);
        dueOrder("both ways from the start", hallOf(22, 0, 1, 0), 1, 0);
    }

    private static void leastRowByNumbers() {
        DUE.says(23, "of several the least row by numbers");
        dueOrder("nine at one place", hallOf(0, 0, 0, 0, 0, 0, 0, 0, 0, 0, 0, 0, 0, 0, 0, 0, 0, 0), 0, 1, 2, 3, 4, 5, 6, 7, 8);
        dueOrder("round either way", hallOf(18, 0, 6, 0), 0, 1);
        dueOrder("round either way", hallOf(6, 0, 18, 0), 0, 1);
        dueOrder("on the way or not", hallOf(4, 0, 0, 0, 2, 0, 0, 0), 1, 3, 2, 0);
        // 1, 0 and 0, 1 both go 3 and 6; then 2 is as far from either.
        dueOrder("a tie at the first", hallOf(1, 0, 23, 0), 0, 1);
        dueOrder("a tie at the first", hallOf(23, 0, 1, 0), 0, 1);
        // From 0 to 8 and round on to 16, or the other way: 24 and 24 either way.
        dueOrder("a tie in between", hallOf(16, 0, 8, 0, 0, 0), 2, 0, 1);
        dueOrder("a tie in between", hallOf(8, 0, 0, 0, 16, 0), 1, 0, 2);
        WindHall x = hallOf(6, 0, 18, 0, 6, 0, 18, 0);
        dueOrder("two and two", x, 0, 2, 1, 3);
        x.done(0, true);
        dueOrder("one and two", x, 1, 3, 2);
        DUE.due("one and two", x.least(), 18 + 36);
    }

    private static void leastOfManyRows() {
        DUE.says(22, "The least sum of MOVES");
        int[][] programs = {{23, 9, 1, 0, 12, 5, 13, 4, 11, 9, 6, 2, 18, 7, 0, 3, 20, 1}, {0, 9, 23, 9, 22, 9, 2, 0, 4, 0, 12, 0, 13, 9, 14, 0, 1, 9},
            {8, 3, 16, 3, 0, 3, 8, 6, 16, 6, 0, 6, 8, 0, 16, 0, 0, 0}};
        for (int[] places : programs) {
            WindHall x = hallOf(places);
            PlainHall y = new PlainHall();
            for (int n = 0; n < places.length; n += 2) {
                y.place(places[n], places[n + 1]);
            }
            DUE.due("nine places", x.least(), y.least());
            for (int i = 0; i <= 9; i++) {
                DUE.due("order " + i, x.order(i), y.order(i));
            }
        }
    }

    private static void doneOrNot() {
        DUE.says(20, "A PLACE is done, or not: whether it was (1, 0). BAD.");
        WindHall x = new WindHall();
        DUE.due("of none", x.done(0, true), BAD);
        for (int n = 0; n < 9; n++) {
            x.place(n, 0);
            DUE.due("behind the last", x.done(n + 1, true), BAD);
            DUE.due("ahead of the first", x.done(-1, true), BAD);
            DUE.due("far away", x.done(n % 2 == 0 ? MIN : MAX, true), BAD);
            DUE.due("the last was not", x.done(n, true), 0);
            DUE.due("it was", x.done(n, false), 1);
            DUE.due("it was not", x.done(n, false), 0);
            DUE.due("none is done", x.count(3), 0);
        }
        for (int n = 0; n < 9; n++) {
            DUE.due("it was not", x.done(n, true), 0);
            DUE.due("it was", x.done(n, true), 1);
            DUE.due("so many are done", x.count(3), n + 1);
            DUE.due("places stay", x.count(2), 9);
        }
    }

    private static void movesOfNone() {
        DUE.says(21, "The MOVE between two. BAD.");
        WindHall x = new WindHall();
        DUE.due("of none", x.moves(0, 0), BAD);
        for (int n = 0; n < 9; n++) {
            x.place(n, n);
            DUE.due("first and last", x.moves(0, n), 10 * n);
            DUE.due("last and first", x.moves(n, 0), 10 * n);
            DUE.due("behind the last", x.moves(0, n + 1), BAD);
            DUE.due("behind the last", x.moves(n + 1, 0), BAD);
            DUE.due("ahead of the first", x.moves(-1, 0), BAD);
            DUE.due("ahead of the first", x.moves(0, -1), BAD);
            DUE.due("the same one twice, which is none", x.moves(n + 1, n + 1), BAD);
        }
        DUE.due("far away", x.moves(MIN, MAX), BAD);
        x.done(0, true);
        x.done(8, true);
        DUE.due("of two that are done", x.moves(0, 8), 80);
    }

    private static void allAreDone() {
        DUE.says(22, "(0: all are done)");
        WindHall x = new WindHall();
        DUE.due("there is none", x.least(), 0);
        for (int n = 0; n < 9; n++) {
            x.place(12, 9);
            DUE.due("one is not", x.least(), 99);
            x.done(n, true);
            DUE.due("all of " + (n + 1), x.least(), 0);
            DUE.due("none to go to", x.order(0), NONE);
        }
        x.done(4, false);
        DUE.due("one is not", x.least(), 99);
        DUE.due("that one", x.order(0), 4);
        DUE.due("behind it", x.order(1), NONE);
        DUE.due("at the start", hallOf(0, 0).least(), 0);
        DUE.due("at the start", hallOf(0, 0).order(0), 0);
    }

    private static void orderOfNone() {
        DUE.says(23, "PLACE i of the ORDER. BAD: i below 0; NONE.");
        WindHall x = new WindHall();
        for (int n = 0; n <= 9; n++) {
            DUE.due("-1 of " + n, x.order(-1), BAD);
            DUE.due("far below of " + n, x.order(MIN), BAD);
            DUE.due("behind the last of " + n, x.order(n), NONE);
            DUE.due("far behind of " + n, x.order(MAX), NONE);
            if (n > 0) {
                DUE.due("the first of " + n, x.order(0), 0);
                DUE.due("the last of " + n, x.order(n - 1), n - 1);
            }
            x.place(n, 0);
        }
        x.done(0, true);
        x.done(8, true);
        DUE.due("the first that is not done", x.order(0), 1);
        DUE.due("the last that is not done", x.order(6), 7);
        DUE.due("behind it", x.order(7), NONE);
        DUE.due("-1", x.order(-1), BAD);
    }
}
