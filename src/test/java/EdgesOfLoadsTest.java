/** The sentences on the balance, on its way back and on calibration that name an edge: promises 1 to 10. */
public final class EdgesOfLoadsTest {
    private static final Due DUE = new Due("EdgesOfLoadsTest");
    private static final int BAD = WindHall.BAD, STATE = WindHall.STATE, FULL = WindHall.FULL, NONE = WindHall.NONE;
    private static final int[][] PAIRS = {{0, 0}, {0, 1}, {0, 2}, {1, 1}, {1, 2}, {2, 2}};

    public static void main(String[] args) {
        callsOfAnObject();
        loads();
        firstTerms();
        secondTerms();
        products();
        greatestReadings();
        givenReadings();
        halvesUp();
        heldLoads();
        roundsFromLoadsToOthers();
        productsOfRounds();
        roundsFromZeroOn();
        roundsAtMost();
        noOnlyX();
        foundBeforeAndElse();
        foundDistance();
        latestBack();
        roomOfPoints();
        fitOfTooFew();
        fitInLowestTerms();
        greatestFit();
        badFit();
        greatestMiss();
        missOfNone();
        forgetting();
        DUE.end();
    }

    private static void callsOfAnObject() {
        DUE.says(1, "An object is used for at most 512 calls after it has been made");
        WindHall x = new WindHall();
        for (int call = 1; call <= 512; call++) {
            int turn = (call - 1) % 13;
            if (turn < 12) {
                DUE.due("call " + call, x.point(turn, 0, 1, 2, 3, 4), turn + 1);
            } else {
                DUE.due("call " + call, x.forget(), 12);
            }
        }
        x = new WindHall();
        for (int call = 1; call <= 512; call++) {
            int turn = (call - 1) % 20;
            if (turn < 10) {
                DUE.due("call " + call, x.correct(turn % 5, 300, 0, 0), turn);
            } else {
                DUE.due("call " + call, x.drop(), 19 - turn);
            }
        }
        x = new WindHall();
        x.place(1, 1);
        for (int call = 2; call <= 512; call++) {
            DUE.due("call " + call, call % 2 == 0 ? x.done(0, call % 4 == 0) : x.least(), callOfDone(call));
        }
    }

    private static int callOfDone(int call) {
        if (call % 2 == 0) {
            return call == 2 || call % 4 == 0 ? 0 : 1;
        }
        return (call - 1) % 4 == 0 ? 0 : 10;
    }

    private static int readingWith(WindHall x, int i, int j, int load) {
        int[] l = new int[3];
        l[j] = load;
        return x.reading(i, l[0], l[1], l[2]);
    }

    private static void loads() {
        DUE.says(4, "LOADS 0 to 2 (each -50 to 50), METERS 0 to 2");
        WindHall x = new WindHall();
        for (int i = 0; i < 3; i++) {
            for (int j = 0; j < 3; j++) {
                x.first(i, j, 30 * i + j + 1);
                for (int end : new int[] {-50, 50}) {
                    DUE.due("LOAD " + j + " " + end, readingWith(x, i, j, end), 100 * end * (30 * i + j + 1));
                    int beyond = end + Integer.signum(end);
                    DUE.due("LOAD " + j + " " + beyond, readingWith(x, i, j, beyond), 9999999);
                }
            }
        }
        DUE.due("METER 0", x.reading(0, 1, 1, 1), 600);
        DUE.due("METER 2", x.reading(2, 1, 1, 1), 18600);
        DUE.due("METER -1", x.reading(-1, 1, 1, 1), 9999999);
        DUE.due("METER 3", x.reading(3, 1, 1, 1), 9999999);
    }

    private static void firstTerms() {
        DUE.says(2, "(-100 to 100; at first 10 of i for i, else 0)");
        for (int i = 0; i < 3; i++) {
            for (int j = 0; j < 3; j++) {
                WindHall x = new WindHall();
                String name = "a(" + i + ", " + j + ") ";
                DUE.due(name + "at first", readingWith(x, i, j, 1), i == j ? 1000 : 0);
                DUE.due(name + "100", x.first(i, j, 100), 1);
                DUE.due(name + "101", x.first(i, j, 101), BAD);
                DUE.due(name + "stays", readingWith(x, i, j, 50), 500000);
                DUE.due(name + "-100", x.first(i, j, -100), 1);
                DUE.due(name + "-101", x.first(i, j, -101), BAD);
                DUE.due(name + "stays", readingWith(x, i, j, 50), -500000);
            }
        }
        WindHall x = new WindHall();
        DUE.due("METER -1", x.first(-1, 0, 1), BAD);
        DUE.due("METER 3", x.first(3, 0, 1), BAD);
        DUE.due("LOAD -1", x.first(0, -1, 1), BAD);
        DUE.due("LOAD 3", x.first(0, 3, 1), BAD);
    }

    private static int readingOfProduct(WindHall x, int i, int p, int size) {
        int[] l = new int[3];
        l[PAIRS[p][0]] = size;
        l[PAIRS[p][1]] = size;
        return x.reading(i, l[0], l[1], l[2]);
    }

    private static void secondTerms() {
        DUE.says(3, "(-20 to 20; 0 at first)");
        for (int i = 0; i < 3; i++) {
            for (int p = 0; p < 6; p++) {
                WindHall x = new WindHall();
                x.first(i, i, 0);
                String name = "b(" + i + ", " + p + ") ";
                DUE.due(name + "at first", readingOfProduct(x, i, p, 50), 0);
                DUE.due(name + "20", x.second(i, p, 20), 1);
                DUE.due(name + "21", x.second(i, p, 21), BAD);
                DUE.due(name + "stays", readingOfProduct(x, i, p, -50), 50000);
                DUE.due(name + "-20", x.second(i, p, -20), 1);
                DUE.due(name + "-21", x.second(i, p, -21), BAD);
                DUE.due(name + "stays", readingOfProduct(x, i, p, -50), -50000);
            }
        }
        WindHall x = new WindHall();
        DUE.due("METER -1", x.second(-1, 0, 1), BAD);
        DUE.due("METER 3", x.second(3, 0, 1), BAD);
        DUE.due("PRODUCT -1", x.second(0, -1, 1), BAD);
        DUE.due("PRODUCT 6", x.second(0, 6, 1), BAD);
    }

    private static void products() {
        DUE.says(3, "PRODUCTS 0 to 5 are LOADS 0 0, 0 1, 0 2, 1 1, 1 2, 2 2, each times the other");
        int[] l = {-50, 49, 50};
        for (int p = 0; p < 6; p++) {
            WindHall x = new WindHall();
            x.first(1, 1, 0);
            x.second(1, p, -20);
            DUE.due("PRODUCT " + p, x.reading(1, l[0], l[1], l[2]), -20 * l[PAIRS[p][0]] * l[PAIRS[p][1]]);
        }
    }

    private static WindHall hallOfAll(int first, int second) {
        WindHall x = new WindHall();
        for (int i = 0; i < 3; i++) {
            for (int j = 0; j < 3; j++) {
                x.first(i, j, first);
            }
            for (int p = 0; p < 6; p++) {
                x.second(i, p, second);
            }
        }
        return x;
    }

    private static void greatestReadings() {
        DUE.says(4, "The READING of METER i: 100 times the sum of a(i, j) times LOAD j, and the sum of b(i, p) times PRODUCT p.");
        for (int i = 0; i < 3; i++) {
            DUE.due("the greatest", hallOfAll(100, 20).reading(i, 50, 50, 50), 1800000);
            DUE.due("the least", hallOfAll(-100, -20).reading(i, 50, 50, 50), -1800000);
            DUE.due("the least by LOADS", hallOfAll(100, -20).reading(i, -50, -50, -50), -1800000);
            DUE.due("of no LOADS", hallOfAll(100, 20).reading(i, 0, 0, 0), 0);
        }
    }

    private static void givenReadings() {
        DUE.says(5, "READINGS that are given are -2000000 to 2000000.");
        for (int i = 0; i < 3; i++) {
            for (int sign = -1; sign <= 1; sign += 2) {
                int[] last = new int[3];
                last[i] = 2000000 * sign;
                int[] beyond = new int[3];
                beyond[i] = 2000001 * sign;
                WindHall x = new WindHall();
                DUE.due("back", x.back(last[0], last[1], last[2], 9), 2);
                DUE.due("back beyond", x.back(beyond[0], beyond[1], beyond[2], 9), BAD);
                DUE.due("found stays", x.found(i), 50 * sign);
                DUE.due("point", x.point(0, 0, 0, last[0], last[1], last[2]), 1);
                DUE.due("point beyond", x.point(0, 0, 0, beyond[0], beyond[1], beyond[2]), BAD);
                DUE.due("points stay", x.count(0), 1);
                DUE.due("raw", x.raw(last[0], last[1], last[2], 0, 0), 1);
                DUE.due("raw beyond", x.raw(beyond[0], beyond[1], beyond[2], 0, 0), BAD);
                DUE.due("raw stays", x.corrected(i, 0), last[i]);
                x.rule(8, 0, 9, 2000000);
                DUE.due("come", x.come(last[0], last[1], last[2]), 0);
                DUE.due("come beyond", x.come(beyond[0], beyond[1], beyond[2]), BAD);
                DUE.due("one came", x.settled(1), 1);
            }
        }
    }

    private static int nearest(int a, int i, int reading) {
        WindHall x = new WindHall();
        x.first(i, i, a);
        int[] r = new int[3];
        r[i] = reading;
        x.back(r[0], r[1], r[2], 9);
        return x.found(i);
    }

    private static void halvesUp() {
        DUE.says(5, "each x to the nearest whole number (halves up)");
        for (int i = 0; i < 3; i++) {
            for (int whole = -50; whole < 50; whole++) {
                DUE.due("below " + whole + " and a half", nearest(10, i, 1000 * whole + 499), whole);
                DUE.due(whole + " and a half", nearest(10, i, 1000 * whole + 500), whole + 1);
                DUE.due("below " + whole + " and a half of -10", nearest(-10, i, -1000 * whole - 499), whole);
                DUE.due(whole + " and a half of -10", nearest(-10, i, -1000 * whole - 500), whole + 1);
            }
            DUE.due("149 by 300", nearest(3, i, 149), 0);
            DUE.due("150 by 300", nearest(3, i, 150), 1);
            DUE.due("-150 by 300", nearest(3, i, -150), 0);
            DUE.due("-151 by 300", nearest(3, i, -151), -1);
            DUE.due("49 by 100", nearest(1, i, 49), 0);
            DUE.due("50 by 100", nearest(1, i, 50), 1);
            DUE.due("-50 by 100", nearest(1, i, -50), 0);
            DUE.due("50 by -100", nearest(-1, i, 50), 0);
            DUE.due("-50 by -100", nearest(-1, i, -50), 1);
            DUE.due("51 by -100", nearest(-1, i, 51), -1);
            DUE.due("4999 by 10000", nearest(100, i, 4999), 0);
            DUE.due("5000 by 10000", nearest(100, i, 5000), 1);
        }
    }

    private static void heldLoads() {
        DUE.says(5, "held to -50 to 50");
        for (int i = 0; i < 3; i++) {
            DUE.due("49.499", nearest(10, i, 49499), 49);
            DUE.due("49.5", nearest(10, i, 49500), 50);
            DUE.due("50.499", nearest(10, i, 50499), 50);
            DUE.due("50.5", nearest(10, i, 50500), 50);
            DUE.due("2000", nearest(10, i, 2000000), 50);
            DUE.due("20000", nearest(1, i, 2000000), 50);
            DUE.due("-49.5", nearest(10, i, -49500), -49);
            DUE.due("-49.501", nearest(10, i, -49501), -50);
            DUE.due("-50.5", nearest(10, i, -50500), -50);
            DUE.due("-50.501", nearest(10, i, -50501), -50);
            DUE.due("-20000", nearest(1, i, -2000000), -50);
        }
        // LOAD 0 is held at 50, so METER 1 feels 20 times 2500 of it in the second round, not more.
        WindHall x = new WindHall();
        x.second(1, 0, 20);
        DUE.due("rounds", x.back(2000000, 53000, 0, 50), 3);
        DUE.due("held", x.found(0), 50);
        DUE.due("by the held one", x.found(1), 3);
        DUE.due("a held one that stays changes nothing", x.found(3), 1);
    }

    private static void roundsFromLoadsToOthers() {
        DUE.says(5, "A ROUND: from LOADS to others");
        WindHall x = new WindHall();
        x.second(0, 3, 20);
        x.second(1, 0, 20);
        DUE.due("two rounds", x.back(10000, 10000, 0, 2), 2);
        DUE.due("LOAD 0 by the old LOAD 1", x.found(0), 8);
        DUE.due("LOAD 1 by the old LOAD 0", x.found(1), 8);
    }

    private static void productsOfRounds() {
        DUE.says(5, "100 times the sum of a(i, j) x(j) = READING i less the sum of b(i, p) times PRODUCT p of the LOADS, for all i");
        int[] l = {-50, 31, 50};
        for (int i = 0; i < 3; i++) {
            for (int p = 0; p < 6; p++) {
                for (int b = -20; b <= 20; b += 40) {
                    WindHall x = new WindHall();
                    int product = b * l[PAIRS[p][0]] * l[PAIRS[p][1]];
                    int[] first = {1000 * l[0], 1000 * l[1], 1000 * l[2]};
                    x.second(i, p, b);
                    x.back(first[0], first[1], first[2], 2);
                    for (int j = 0; j < 3; j++) {
                        int want = j == i ? Math.max(-50, Math.min(50, Math.floorDiv(first[j] - product + 500, 1000))) : l[j];
                        DUE.due("LOAD " + j + " with b(" + i + ", " + p + ") " + b, x.found(j), want);
                    }
                }
            }
        }
    }

    private static void roundsFromZeroOn() {
        DUE.says(5, "BACK: ROUNDS from 0, 0, 0 on, until one changes nothing, n at most");
        WindHall x = new WindHall();
        x.second(0, 0, 10);
        x.back(30000, 0, 0, 50);
        DUE.due("one round, from 0 again", x.back(20000, 0, 0, 1), 1);
        DUE.due("with no products", x.found(0), 20);
        DUE.due("the second one", x.back(20000, 0, 0, 2), 2);
        DUE.due("with products of 20", x.found(0), 16);
        DUE.due("the third one", x.back(20000, 0, 0, 3), 3);
        DUE.due("with products of 16", x.found(0), 17);
        DUE.due("the fourth one", x.back(20000, 0, 0, 4), 4);
        DUE.due("with products of 17", x.found(0), 17);
        DUE.due("changed nothing", x.found(3), 1);
        DUE.due("none goes behind it", x.back(20000, 0, 0, 50), 4);
        DUE.due("three only", x.back(20000, 0, 0, 3), 3);
        DUE.due("the third changed", x.found(3), 0);
    }

    private static void roundsAtMost() {
        DUE.says(5, "by n (1 to 50) ROUNDS at most: how many were gone (the one that changed nothing, too)");
        WindHall x = new WindHall();
        DUE.due("0", x.back(1000, 0, 0, 0), BAD);
        DUE.due("1", x.back(1000, 0, 0, 1), 1);
        DUE.due("2", x.back(1000, 0, 0, 2), 2);
        DUE.due("50", x.back(1000, 0, 0, 50), 2);
        DUE.due("51", x.back(1000, 0, 0, 51), BAD);
        DUE.due("1 of nothing", x.back(0, 0, 0, 1), 1);
        DUE.due("it changed nothing", x.found(3), 1);
        DUE.due("50 of nothing", x.back(499, -500, 0, 50), 1);
        DUE.due("it changed nothing", x.found(3), 1);
        x.second(2, 5, 20);
        for (int n = 1; n <= 50; n++) {
            DUE.due("to and fro " + n, x.back(0, 0, 50000, n), n);
            DUE.due("LOAD 2 behind " + n, x.found(2), n % 2 == 1 ? 50 : 0);
            DUE.due("the last changed something", x.found(3), 0);
        }
    }

    private static WindHall hallOf(int... a) {
        WindHall x = new WindHall();
        for (int n = 0; n < 9; n++) {
            x.first(n / 3, n % 3, a[n]);
        }
        return x;
    }

    private static void noOnlyX() {
        DUE.says(5, "STATE: no x is the only one (the FIRST are so that there is none, or several)");
        int[][] none = {{0, 0, 0, 0, 0, 0, 0, 0, 0}, {1, 0, 0, 0, 1, 0, 0, 0, 0}, {0, 0, 0, 0, 1, 0, 0, 0, 1},
            {1, 2, 3, 1, 2, 3, 7, 8, 9}, {1, 2, 3, 7, 8, 9, -1, -2, -3}, {5, 5, 1, 6, 6, 2, 7, 7, 4},
            {1, 2, 3, 4, 5, 6, 7, 8, 9}, {100, 99, -1, 99, 98, -1, -100, -99, 1}, {100, 100, 100, 100, 100, 100, 100, 100, 100}};
        for (int[] a : none) {
            WindHall x = hallOf(a);
            DUE.due("several", x.back(0, 0, 0, 9), STATE);
            DUE.due("none", x.back(1, -2, 5, 9), STATE);
            DUE.due("found stays", x.found(3), 0);
        }
        int[][] one = {{1, 0, 0, 0, 1, 0, 0, 0, 1}, {0, 0, 1, 0, 1, 0, 1, 0, 0}, {100, 99, 0, 99, 98, 0, 0, 0, 1},
            {100, 100, -100, 100, -100, 100, -100, 100, 100}, {-100, -100, 100, -100, 100, -100, 100, -100, -100},
            {100, 99, 98, 99, 98, 97, 98, 97, 95}};
        for (int[] a : one) {
            WindHall x = hallOf(a);
            int[] r = new int[3];
            for (int i = 0; i < 3; i++) {
                r[i] = x.reading(i, -7, 50, -50);
            }
            DUE.due("one only", x.back(r[0], r[1], r[2], 9), 2);
            DUE.due("LOAD 0", x.found(0), -7);
            DUE.due("LOAD 1", x.found(1), 50);
            DUE.due("LOAD 2", x.found(2), -50);
            DUE.due("not away", x.found(4), 0);
            DUE.due("READINGS at the ends", x.back(2000000, -2000000, 2000000, 50) > 0 ? 1 : 0, 1);
        }
    }

    private static void foundBeforeAndElse() {
        DUE.says(6, "0 before, and else.");
        WindHall x = new WindHall();
        for (int what = 0; what <= 4; what++) {
            DUE.due("before " + what, x.found(what), 0);
        }
        x.back(0, 0, 0, 51);
        x.first(0, 0, 0);
        x.back(0, 0, 0, 50);
        for (int what = 0; what <= 4; what++) {
            DUE.due("behind refused ones " + what, x.found(what), 0);
        }
        x.first(0, 0, 10);
        x.back(1001, 2000, 3000, 50);
        for (int what : new int[] {-1, 5, Integer.MIN_VALUE, Integer.MAX_VALUE}) {
            DUE.due("else " + what, x.found(what), 0);
        }
        DUE.due("the last that is not else", x.found(4), 1);
    }

    private static void foundDistance() {
        DUE.says(6, "the greatest of all METERS (without sign)");
        for (int i = 0; i < 3; i++) {
            for (int away : new int[] {-400, 400, -1, 1}) {
                int[] r = {5000, 6000, -7000};
                r[(i + 1) % 3] += away / 2;
                r[i] += away;
                WindHall x = new WindHall();
                x.back(r[0], r[1], r[2], 9);
                DUE.due("METER " + i + " away by " + away, x.found(4), Math.abs(away));
            }
        }
        WindHall x = hallOf(100, 100, 100, 0, -100, 0, 0, 0, -100);
        for (int p = 0; p < 6; p++) {
            x.second(0, p, 20);
        }
        x.back(-2000000, -500000, -500000, 1);
        DUE.due("LOAD 0", x.found(0), -50);
        DUE.due("far away", x.found(4), Math.abs(-2000000 - x.reading(0, -50, 50, 50)));
    }

    private static void latestBack() {
        DUE.says(6, "Of the latest back() that was not refused");
        WindHall x = new WindHall();
        x.back(1100, 2000, 3000, 9);
        x.back(9000, 9000, 9000, 0);
        x.back(9000, 9000, 2000001, 9);
        x.first(1, 1, 0);
        x.back(9000, 9000, 9000, 9);
        int[] want = {1, 2, 3, 1, 100};
        for (int what = 0; what < 5; what++) {
            DUE.due("found " + what, x.found(what), want[what]);
        }
    }

    private static void roomOfPoints() {
        DUE.says(7, "CALIBRATION POINTS (12)");
        WindHall x = new WindHall();
        for (int n = 1; n <= 12; n++) {
            DUE.due("point " + n, x.point(n == 1 ? 1 : 0, n == 2 ? 1 : 0, n > 2 ? 1 : 0, 0, 0, n == 12 ? 1000 : 0), n);
        }
        for (int n = 13; n <= 15; n++) {
            DUE.due("point " + n, x.point(0, 0, 1, 0, 0, 2000000), FULL);
            DUE.due("there are", x.count(0), 12);
            DUE.due("the fit is of twelve", x.fit(2, 2, 0), 1);
            DUE.due("the fit is of twelve", x.fit(2, 2, 1), 1);
            DUE.due("the miss is of twelve", x.miss(2), 1000);
        }
    }

    private static void fitOfTooFew() {
        DUE.says(8, "0: no FIT is the only one.");
        int[][] loads = {{0, 0, 0}, {1, 2, 3}, {50, -50, 50}, {2, 4, 6}};
        WindHall x = new WindHall();
        dueFit(x, 0, 0);
        for (int[] l : loads) {
            x.point(l[0], l[1], l[2], 100, 200, 300);
            dueFit(x, 0, 0);
        }
        x.point(0, 0, 1, 100, 200, 300);
        for (int i = 0; i < 3; i++) {
            for (int j = 0; j < 3; j++) {
                DUE.due("the only one now", x.fit(i, j, 1) > 0 ? 1 : 0, 1);
            }
        }
        x.forget();
        x.point(50, 0, 0, 1, 1, 1);
        x.point(0, 50, 0, 1, 1, 1);
        dueFit(x, 0, 0);
        x.point(-50, -50, 0, 1, 1, 1);
        dueFit(x, 0, 0);
        x.point(0, 0, -1, 1, 1, 1);
        DUE.due("the only one of LOAD 2", x.fit(1, 2, 0), -1);
        DUE.due("the only one of LOAD 2", x.fit(1, 2, 1), 100);
    }

    private static void dueFit(WindHall x, long numerator, long denominator) {
        for (int i = 0; i < 3; i++) {
            for (int j = 0; j < 3; j++) {
                DUE.due("numerator of " + i + " " + j, x.fit(i, j, 0), numerator);
                DUE.due("denominator of " + i + " " + j, x.fit(i, j, 1), denominator);
            }
        }
    }

    private static void fitInLowestTerms() {
        DUE.says(8, "1 its denominator (above 0, in lowest terms)");
        int[][] cases = {{0, 0, 1}, {1, 1, 100}, {-1, -1, 100}, {2, 1, 50}, {50, 1, 2}, {100, 1, 1}, {-100, -1, 1},
            {150, 3, 2}, {-75, -3, 4}, {2000000, 20000, 1}, {1999999, 1999999, 100}, {-2000000, -20000, 1}};
        for (int[] c : cases) {
            WindHall x = new WindHall();
            x.point(1, 0, 0, c[0], c[0], c[0]);
            x.point(0, 1, 0, c[0], c[0], c[0]);
            x.point(0, 0, 1, c[0], c[0], c[0]);
            dueFit(x, c[1], c[2]);
            x.forget();
            x.point(-1, 0, 0, c[0], c[0], c[0]);
            x.point(0, -1, 0, c[0], c[0], c[0]);
            x.point(0, 0, -1, c[0], c[0], c[0]);
            dueFit(x, -c[1], c[2]);
        }
    }

    private static void greatestFit() {
        DUE.says(8, "is least.");
        // All signs of the greatest LOADS and READINGS, so that nothing in between may be too long.
        for (int signs = 0; signs < 1024; signs++) {
            WindHall x = new WindHall();
            PlainHall y = new PlainHall();
            for (int n = 0; n < 12; n++) {
                int bits = (signs * 2654435 + n * 40503) >>> 3;
                int[] l = {sign(bits) * 50, sign(bits >> 1) * (n == 0 ? 49 : 50), sign(bits >> 2) * (50 - n % 2)};
                int[] r = {sign(bits >> 3) * 2000000, sign(bits >> 4) * 1999999, l[0] * 40000};
                x.point(l[0], l[1], l[2], r[0], r[1], r[2]);
                y.point(l[0], l[1], l[2], r[0], r[1], r[2]);
            }
            for (int j = 0; j < 3; j++) {
                int i = (signs + j) % 3;
                DUE.due("numerator", x.fit(i, j, 0), y.fit(i, j, 0));
                DUE.due("denominator", x.fit(i, j, 1), y.fit(i, j, 1));
            }
        }
    }

    private static int sign(int bits) {
        return (bits & 1) == 0 ? 1 : -1;
    }

    private static void badFit() {
        DUE.says(8, "BAD -1000000000000L");
        WindHall empty = new WindHall();
        WindHall three = new WindHall();
        three.point(1, 0, 0, 100, 0, 0);
        three.point(0, 1, 0, 0, 100, 0);
        three.point(0, 0, 1, 0, 0, 100);
        int[][] wrong = {{-1, 0, 0}, {3, 0, 0}, {0, -1, 0}, {0, 3, 0}, {0, 0, -1}, {0, 0, 2}};
        for (int[] w : wrong) {
            DUE.due("without points", empty.fit(w[0], w[1], w[2]), -1000000000000L);
            DUE.due("with points", three.fit(w[0], w[1], w[2]), -1000000000000L);
        }
        DUE.due("the last as told", three.fit(2, 2, 1), 1);
        DUE.due("the first as told", three.fit(0, 0, 0), 1);
    }

    private static void greatestMiss() {
        DUE.says(9, "The greatest distance of a POINT's READING i from that of its LOADS by FIRST, SECOND (without sign).");
        for (int at = 0; at < 12; at++) {
            for (int away : new int[] {7, -7}) {
                WindHall x = new WindHall();
                for (int n = 0; n < 12; n++) {
                    int far = n == at ? away : n % 2 == 0 ? 6 : -6;
                    x.point(n, -n, 1, 1000 * n + far, -1000 * n, 1000 - far);
                }
                DUE.due("point " + at + " is the farthest", x.miss(0), 7);
                DUE.due("none is away", x.miss(1), 0);
                DUE.due("point " + at + " is the farthest, the other sign", x.miss(2), 7);
            }
        }
        WindHall x = hallOfAll(-100, -20);
        x.point(50, 50, 50, 2000000, -2000000, -1800000);
        DUE.due("as far as can be", x.miss(0), 3800000);
        DUE.due("below it", x.miss(1), 200000);
        DUE.due("at it", x.miss(2), 0);
    }

    private static void missOfNone() {
        DUE.says(9, "BAD; NONE: no POINTS.");
        WindHall x = new WindHall();
        for (int i = 0; i < 3; i++) {
            DUE.due("miss " + i, x.miss(i), NONE);
        }
        DUE.due("miss -1", x.miss(-1), BAD);
        DUE.due("miss 3", x.miss(3), BAD);
        x.point(0, 0, 0, 0, 0, 0);
        for (int i = 0; i < 3; i++) {
            DUE.due("miss " + i + " of one", x.miss(i), 0);
        }
        DUE.due("miss -1", x.miss(-1), BAD);
        DUE.due("miss 3", x.miss(3), BAD);
        x.forget();
        DUE.due("miss when they went", x.miss(0), NONE);
    }

    private static void forgetting() {
        DUE.says(10, "The POINTS go: how many.");
        WindHall x = new WindHall();
        DUE.due("of none", x.forget(), 0);
        for (int many : new int[] {1, 12, 12, 2}) {
            for (int n = 1; n <= many; n++) {
                DUE.due("point", x.point(50, 50, 50, 2000000, 0, 0), n);
            }
            DUE.due("of " + many, x.forget(), many);
            DUE.due("none is left", x.count(0), 0);
            DUE.due("none is left", x.miss(0), NONE);
            DUE.due("of none", x.forget(), 0);
        }
        x.point(0, 0, 0, 5, 0, 0);
        DUE.due("those that went do not count", x.miss(0), 5);
    }
}
