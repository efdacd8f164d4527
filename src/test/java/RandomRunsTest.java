import java.util.Random;

/** Runs of nearly 512 calls, the same at each start, whose answers PlainHall tells. */
public final class RandomRunsTest {
    private static final Due DUE = new Due("RandomRunsTest");
    private static final int[] FAR = {Integer.MIN_VALUE, Integer.MAX_VALUE, Integer.MIN_VALUE + 1, -1, 0, 1};
    /** No turn of a run asks more often than this. */
    private static final int MOST_OF_A_TURN = 20;
    private static Random random;
    private static int calls;

    public static void main(String[] args) {
        for (int run = 0; run < 1400; run++) {
            random = new Random(run);
            calls = 0;
            WindHall x = new WindHall();
            PlainHall y = new PlainHall();
            // One part alone in most runs, so that its state gets full.
            int part = run % 7;
            while (calls + MOST_OF_A_TURN <= 512) {
                switch (part < 6 ? part : random.nextInt(6)) {
                    case 0:
                        balance(x, y);
                        break;
                    case 1:
                        calibration(x, y);
                        break;
                    case 2:
                        corrections(x, y);
                        break;
                    case 3:
                        program(x, y);
                        break;
                    case 4:
                        settling(x, y);
                        break;
                    default:
                        tubes(x, y);
                        break;
                }
                int what = of(0, 5);
                due(36, "count " + what, x.count(what), y.count(what));
            }
        }
        DUE.end();
    }

    private static void due(int promise, String call, long got, long want) {
        calls++;
        DUE.due(promise, call, got, want);
    }

    /** Mostly inside, often at an end, at times outside. */
    private static int of(int low, int high) {
        int way = random.nextInt(40);
        if (way == 0) {
            return FAR[random.nextInt(FAR.length)];
        }
        if (way == 1) {
            return random.nextBoolean() ? low - 1 : high + 1;
        }
        if (way < 6) {
            return random.nextBoolean() ? low : high;
        }
        return low + random.nextInt(high - low + 1);
    }

    private static int reading() {
        return random.nextInt(4) == 0 ? of(-2000000, 2000000) : of(-60000, 60000);
    }

    private static void balance(WindHall x, PlainHall y) {
        int i = of(0, 2);
        int j = of(0, 2);
        int p = of(0, 5);
        int a = random.nextInt(3) > 0 && i == j ? of(10, 100) : of(-9, 9);
        int b = of(-20, 20);
        int[] l = {of(-50, 50), of(-50, 50), of(-50, 50)};
        int[] r = {reading(), reading(), reading()};
        int n = of(1, 50);
        switch (random.nextInt(8)) {
            case 0:
                due(2, "first", x.first(i, j, a), y.first(i, j, a));
                break;
            case 1:
                due(3, "second", x.second(i, p, b), y.second(i, p, b));
                break;
            case 2:
            case 3:
                due(4, "reading", x.reading(i, l[0], l[1], l[2]), y.reading(i, l[0], l[1], l[2]));
                break;
            default:
                if (random.nextBoolean()) {
                    for (int k = 0; k < 3; k++) {
                        r[k] = y.reading(k, l[0], l[1], l[2]);
                    }
                }
                due(5, "back", x.back(r[0], r[1], r[2], n), y.back(r[0], r[1], r[2], n));
                break;
        }
        for (int what = -1; what <= 5; what++) {
            due(6, "found " + what, x.found(what), y.found(what));
        }
    }

    private static void calibration(WindHall x, PlainHall y) {
        int size = random.nextInt(5) == 0 ? 50 : 3;
        int[] l = {of(-size, size), of(-size, size), of(-size, size)};
        int[] r = {reading(), reading(), reading()};
        int i = of(0, 2);
        int j = of(0, 2);
        int what = of(0, 1);
        switch (random.nextInt(6)) {
            case 0:
            case 1:
                if (random.nextInt(20) == 0) {
                    due(10, "forget", x.forget(), y.forget());
                }
                due(7, "point", x.point(l[0], l[1], l[2], r[0], r[1], r[2]),
                        y.point(l[0], l[1], l[2], r[0], r[1], r[2]));
                break;
            case 2:
                due(9, "miss", x.miss(i), y.miss(i));
                break;
            case 3:
                balance(x, y);
                break;
            default:
                due(8, "fit", x.fit(i, j, what), y.fit(i, j, what));
                break;
        }
    }

    private static void corrections(WindHall x, PlainHall y) {
        int kind = of(0, 4);
        boolean small = random.nextBoolean();
        int u = kind == 3 ? of(-300, 300) : small ? of(-3, 3) : of(-10000, 10000);
        int v = small ? of(-3, 3) : of(-10000, 10000);
        int w = small ? of(-3, 3) : of(-10000, 10000);
        int k = of(0, 9);
        boolean on = random.nextBoolean();
        int time = of(0, 1000);
        int angle = of(0, 23);
        int[] r = {small ? of(-3, 3) : reading(), reading(), reading()};
        switch (random.nextInt(9)) {
            case 0:
            case 1:
                due(11, "correct", x.correct(kind, u, v, w), y.correct(kind, u, v, w));
                break;
            case 2:
                due(12, "turn", x.turn(k, on), y.turn(k, on));
                break;
            case 3:
                due(13, "swap", x.swap(k), y.swap(k));
                break;
            case 4:
                if (random.nextBoolean()) {
                    due(14, "drop", x.drop(), y.drop());
                }
                break;
            case 5:
            case 6:
                due(15, "raw", x.raw(r[0], r[1], r[2], time, angle), y.raw(r[0], r[1], r[2], time, angle));
                break;
            case 7:
                due(17, "touches", x.touches(k), y.touches(k));
                break;
            default:
                due(18, "minds", x.minds(k), y.minds(k));
                break;
        }
        int i = of(0, 2);
        int behind = of(0, 10);
        due(16, "corrected", x.corrected(i, behind), y.corrected(i, behind));
    }

    private static void program(WindHall x, PlainHall y) {
        boolean small = random.nextInt(3) > 0;
        int angle = small ? of(0, 3) : of(0, 23);
        int speed = small ? of(0, 1) : of(0, 9);
        int p = of(0, 8);
        int q = of(0, 8);
        boolean is = random.nextInt(3) > 0;
        switch (random.nextInt(5)) {
            case 0:
                if (random.nextInt(2) == 0) {
                    due(19, "place", x.place(angle, speed), y.place(angle, speed));
                }
                break;
            case 1:
            case 2:
                due(20, "done", x.done(p, is), y.done(p, is));
                break;
            case 3:
                due(21, "moves", x.moves(p, q), y.moves(p, q));
                break;
            default:
                // Trying all orders of more than seven is left to a few.
                if (y.count(2) - y.count(3) <= 7 || random.nextInt(50) == 0) {
                    due(22, "least", x.least(), y.least());
                    for (int i = -1; y.count(2) - y.count(3) <= 6 && i <= 7; i++) {
                        due(23, "order " + i, x.order(i), y.order(i));
                    }
                    due(23, "order", x.order(p), y.order(p));
                }
                break;
        }
    }

    private static void settling(WindHall x, PlainHall y) {
        int n = of(1, 8);
        int d = random.nextBoolean() ? of(0, 4) : of(0, 100000);
        int most = of(1, 100);
        int limit = random.nextBoolean() ? of(1, 20) : of(1, 2000000);
        int near = random.nextInt(3) == 0 ? 20 : 2;
        int[] r = {of(-near, near), of(-near, near), random.nextInt(8) == 0 ? reading() : of(-near, near)};
        int way = random.nextInt(30);
        if (way == 0) {
            due(24, "rule", x.rule(n, d, most, limit), y.rule(n, d, most, limit));
        } else if (way == 1 || y.settled(0) != 0 && way < 10) {
            due(27, "anew", x.anew(), y.anew());
        } else {
            due(25, "come", x.come(r[0], r[1], r[2]), y.come(r[0], r[1], r[2]));
        }
        for (int what = -1; what <= 6; what++) {
            due(26, "settled " + what, x.settled(what), y.settled(what));
        }
    }

    private static void tubes(WindHall x, PlainHall y) {
        int area = random.nextBoolean() ? of(1, 7) : of(1, 100);
        int k = of(0, 9);
        boolean lost = random.nextInt(8) == 0;
        int p = of(-1000, 1000);
        int e = random.nextInt(3) > 0 ? of(0, 3) : of(0, 100000);
        int load = random.nextInt(3) == 0 ? of(-2000000, 2000000) : y.force() + of(-3000, 3000);
        switch (random.nextInt(8)) {
            case 0:
                if (random.nextInt(3) == 0) {
                    due(28, "tube", x.tube(area), y.tube(area));
                }
                break;
            case 1:
            case 2:
                due(29, "press", x.press(k, lost, p), y.press(k, lost, p));
                break;
            case 3:
                due(34, "check", x.check(load, e), y.check(load, e));
                break;
            case 4:
                due(35, "fill", x.fill(load), y.fill(load));
                break;
            default:
                sheets(x, y);
                break;
        }
        due(33, "force", x.force(), y.force());
    }

    private static void sheets(WindHall x, PlainHall y) {
        int k = of(0, 3);
        int lane = of(0, 2);
        int n = of(0, 60);
        int i = random.nextBoolean() ? of(0, 12) : of(0, 60);
        int v = random.nextInt(3) == 0 ? random.nextInt() : of(-1000, 1000);
        switch (random.nextInt(8)) {
            case 0:
                due(30, "sheet", x.sheet(k, lane, n), y.sheet(k, lane, n));
                break;
            case 1:
                due(32, "scan", x.scan(k, lane, i), y.scan(k, lane, i));
                break;
            default:
                due(31, "lay", x.lay(k, i, v), y.lay(k, i, v));
                break;
        }
    }
}
