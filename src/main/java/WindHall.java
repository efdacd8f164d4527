/**
 * A wind hall: a balance, its calibration, corrections, a program of places, settling readings,
 * pressed tubes and sheets. What each call answers stands in the document's promise of its name.
 */
public final class WindHall {
    public static final int BAD = -1, STATE = -2, FULL = -3, NONE = -4;

    private static final int METERS = 3;
    private static final int MOST_LOAD = 50;
    private static final int MOST_READING = 2000000;
    private static final int NO_READING = 9999999;
    private static final long BAD_FIT = -1000000000000L;
    private static final int ANGLES = 24;
    private static final int SHEETS = 4;
    private static final int LANES = 3;

    private final Balance balance = new Balance();
    private final Calibration calibration = new Calibration();
    private final Corrections corrections = new Corrections();
    private final Program program = new Program();
    private final Settling settling = new Settling();
    private final Tubes tubes = new Tubes();
    private final Sheet[] sheets = new Sheet[SHEETS];

    public WindHall() {
        for (int k = 0; k < SHEETS; k++) {
            sheets[k] = new Sheet();
        }
    }

    // ---- the balance

    public int first(int i, int j, int v) {
        if (!isIndex(i, METERS) || !isIndex(j, METERS) || !isWithin(v, 100)) {
            return BAD;
        }
        balance.first[i][j] = v;
        return 1;
    }

    public int second(int i, int p, int v) {
        if (!isIndex(i, METERS) || !isIndex(p, Balance.PRODUCTS) || !isWithin(v, 20)) {
            return BAD;
        }
        balance.second[i][p] = v;
        return 1;
    }

    public int reading(int i, int x, int y, int z) {
        if (!isIndex(i, METERS) || !areLoads(x, y, z)) {
            return NO_READING;
        }
        return balance.readingOf(i, x, y, z);
    }

    public int back(int r0, int r1, int r2, int n) {
        if (!areReadings(r0, r1, r2) || n < 1 || n > 50) {
            return BAD;
        }
        return balance.goBack(r0, r1, r2, n);
    }

    public int found(int what) {
        if (isIndex(what, METERS)) {
            return balance.load[what];
        }
        if (what == 3) {
            return balance.still ? 1 : 0;
        }
        return what == 4 ? balance.away : 0;
    }

    public int point(int x, int y, int z, int r0, int r1, int r2) {
        if (!areLoads(x, y, z) || !areReadings(r0, r1, r2)) {
            return BAD;
        }
        if (calibration.count >= Calibration.ROOM) {
            return FULL;
        }
        setRow(calibration.loads[calibration.count], x, y, z);
        setRow(calibration.readings[calibration.count], r0, r1, r2);
        calibration.count++;
        return calibration.count;
    }

    public long fit(int i, int j, int what) {
        if (!isIndex(i, METERS) || !isIndex(j, METERS) || !isIndex(what, 2)) {
            return BAD_FIT;
        }
        return calibration.partOfFit(i, j, what == 0);
    }

    public int miss(int i) {
        if (!isIndex(i, METERS)) {
            return BAD;
        }
        return calibration.count == 0 ? NONE : calibration.greatestMiss(i, balance);
    }

    public int forget() {
        int had = calibration.count;
        calibration.count = 0;
        return had;
    }

    // ---- corrections

    public int correct(int kind, int u, int v, int w) {
        if (!Correction.isAsTold(kind, u, v, w)) {
            return BAD;
        }
        return corrections.count >= Corrections.ROOM ? FULL : corrections.append(kind, u, v, w);
    }

    public int turn(int k, boolean on) {
        if (!isIndex(k, corrections.count)) {
            return BAD;
        }
        boolean was = corrections.row[k].on;
        corrections.row[k].on = on;
        return was ? 1 : 0;
    }

    public int swap(int k) {
        if (!isIndex(k, corrections.count - 1)) {
            return BAD;
        }
        Correction earlier = corrections.row[k];
        corrections.row[k] = corrections.row[k + 1];
        corrections.row[k + 1] = earlier;
        return 1;
    }

    public int drop() {
        if (corrections.count == 0) {
            return NONE;
        }
        corrections.count--;
        return corrections.count;
    }

    public int raw(int r0, int r1, int r2, int time, int angle) {
        if (!areReadings(r0, r1, r2) || time < 0 || time > 1000 || !isIndex(angle, ANGLES)) {
            return BAD;
        }
        setRow(corrections.told, r0, r1, r2);
        corrections.time = time;
        corrections.angle = angle;
        return 1;
    }

    public long corrected(int i, int k) {
        if (!isIndex(i, METERS) || k < 0 || k > corrections.count) {
            return 0;
        }
        corrections.goThrough(k, corrections.now);
        return corrections.now[i];
    }

    public int touches(int c) {
        if (!isIndex(c, corrections.count)) {
            return BAD;
        }
        return corrections.isFelt(c) ? c + 1 : NONE;
    }

    public int minds(int c) {
        if (!isIndex(c, corrections.count - 1)) {
            return BAD;
        }
        return corrections.isOrderFelt(c) ? 1 : 0;
    }

    // ---- programs

    public int place(int angle, int speed) {
        if (!isIndex(angle, ANGLES) || !isIndex(speed, 10)) {
            return BAD;
        }
        return program.count >= Program.ROOM ? FULL : program.append(angle, speed);
    }

    public int done(int p, boolean is) {
        if (!isIndex(p, program.count)) {
            return BAD;
        }
        boolean was = program.isDone[p];
        program.isDone[p] = is;
        program.isPlanned = program.isPlanned && was == is;
        return was ? 1 : 0;
    }

    public int moves(int p, int q) {
        if (!isIndex(p, program.count) || !isIndex(q, program.count)) {
            return BAD;
        }
        return program.move[p][q];
    }

    public int least() {
        program.plan();
        return program.leastSum;
    }

    public int order(int i) {
        if (i < 0) {
            return BAD;
        }
        program.plan();
        return i < program.planned ? program.row[i] : NONE;
    }

    // ---- settling

    public int rule(int n, int d, int most, int limit) {
        boolean asTold = n >= 1 && n <= Settling.MOST_N && d >= 0 && d <= 100000
                && most >= 1 && most <= 100 && limit >= 1 && limit <= MOST_READING;
        if (!asTold) {
            return BAD;
        }
        settling.n = n;
        settling.d = d;
        settling.most = most;
        settling.limit = limit;
        settling.startAnew();
        return 1;
    }

    public int come(int r0, int r1, int r2) {
        if (!areReadings(r0, r1, r2)) {
            return BAD;
        }
        return settling.state == Settling.WAITS ? settling.take(r0, r1, r2) : STATE;
    }

    public int settled(int what) {
        switch (what) {
            case 0:
                return settling.state;
            case 1:
                return settling.came;
            case 2:
                return settling.beyond;
            case 3:
            case 4:
            case 5:
                return settling.state == Settling.SETTLED ? settling.sumOfLatest(what - 3) : 0;
            default:
                return BAD;
        }
    }

    public int anew() {
        int had = settling.came;
        settling.startAnew();
        return had;
    }

    // ---- tubes, sheets

    public int tube(int area) {
        if (area < 1 || area > 100) {
            return BAD;
        }
        return tubes.count >= Tubes.ROOM ? FULL : tubes.append(area);
    }

    public int press(int k, boolean lost, int p) {
        if (!isIndex(k, tubes.count) || !lost && !Tubes.isPressure(p)) {
            return BAD;
        }
        tubes.isLost[k] = lost;
        tubes.pressure[k] = lost ? 0 : p;
        return 1;
    }

    public int sheet(int k, int lane, int n) {
        if (!isIndex(k, SHEETS) || !isIndex(lane, LANES) || n > Sheet.ROOM) {
            return BAD;
        }
        if (n < 0) {
            return answerOfFault(Sheet.SIZE);
        }
        sheets[k].makeNew(lane, n);
        return 1;
    }

    public int lay(int k, int i, int v) {
        if (!isIndex(k, SHEETS)) {
            return BAD;
        }
        int fault = sheets[k].faultOfCells(i, 1);
        if (fault != Sheet.NO_FAULT) {
            return answerOfFault(fault);
        }
        sheets[k].set(i, v);
        return 1;
    }

    public int scan(int k, int lane, int f) {
        if (!isIndex(k, SHEETS) || !isIndex(lane, LANES)) {
            return BAD;
        }
        int fault = sheets[k].faultOfLane(lane);
        if (fault == Sheet.NO_FAULT) {
            fault = sheets[k].faultOfCells(f, tubes.count);
        }
        if (fault != Sheet.NO_FAULT) {
            return answerOfFault(fault);
        }
        tubes.takeFrom(sheets[k], f);
        return tubes.howManyLost();
    }

    public int force() {
        return tubes.sum();
    }

    public int check(int load, int e) {
        if (e < 0 || e > 100000 || !isWithin(load, MOST_READING)) {
            return BAD;
        }
        return tubes.howManyLost() > 0 ? STATE : tubes.compare(load, e);
    }

    public int fill(int load) {
        if (!isWithin(load, MOST_READING)) {
            return BAD;
        }
        return tubes.howManyLost() == 1 ? tubes.pressureOfLost(load) : STATE;
    }

    public int count(int what) {
        switch (what) {
            case 0:
                return calibration.count;
            case 1:
                return corrections.count;
            case 2:
                return program.count;
            case 3:
                return program.howManyDone();
            case 4:
                return tubes.count;
            case 5:
                return tubes.howManyLost();
            default:
                return BAD;
        }
    }

    // ---- what several parts use

    private static boolean isIndex(int i, int size) {
        return i >= 0 && i < size;
    }

    private static boolean isWithin(int v, int most) {
        return v >= -most && v <= most;
    }

    private static boolean areLoads(int x, int y, int z) {
        return isWithin(x, MOST_LOAD) && isWithin(y, MOST_LOAD) && isWithin(z, MOST_LOAD);
    }

    private static boolean areReadings(int r0, int r1, int r2) {
        return isWithin(r0, MOST_READING) && isWithin(r1, MOST_READING) && isWithin(r2, MOST_READING);
    }

    private static void setRow(int[] row, int v0, int v1, int v2) {
        row[0] = v0;
        row[1] = v1;
        row[2] = v2;
    }

    private static int answerOfFault(int fault) {
        return -10 - fault;
    }

    /** Three equations with three unknowns, by determinants, so that what comes out is exact. */
    private static final class Equations {
        static final int NO_COLUMN = -1;

        final long[][] left = new long[METERS][METERS];
        final long[] right = new long[METERS];

        /** The determinant of the left side, with the right side standing in one column of it. */
        long determinant(int column) {
            long sum = 0;
            for (int j = 0; j < METERS; j++) {
                int k = (j + 1) % METERS;
                int l = (j + 2) % METERS;
                long minor = term(1, k, column) * term(2, l, column) - term(1, l, column) * term(2, k, column);
                sum += term(0, j, column) * minor;
            }
            return sum;
        }

        private long term(int i, int j, int column) {
            return j == column ? right[i] : left[i][j];
        }
    }

    /** The terms of the meters, and what the latest way back from readings found. */
    private static final class Balance {
        static final int PRODUCTS = 6;

        final int[][] first = {{10, 0, 0}, {0, 10, 0}, {0, 0, 10}};
        final int[][] second = new int[METERS][PRODUCTS];
        final int[] load = new int[METERS];
        boolean still = false;
        int away = 0;
        private final int[] given = new int[METERS];
        private final Equations equations = new Equations();

        int readingOf(int i, int x, int y, int z) {
            int[] a = first[i];
            return 100 * (a[0] * x + a[1] * y + a[2] * z) + productsOf(i, x, y, z);
        }

        private int productsOf(int i, int x, int y, int z) {
            int[] b = second[i];
            return b[0] * x * x + b[1] * x * y + b[2] * x * z + b[3] * y * y + b[4] * y * z + b[5] * z * z;
        }

        int goBack(int r0, int r1, int r2, int most) {
            setLeft();
            long determinant = equations.determinant(Equations.NO_COLUMN);
            if (determinant == 0) {
                return STATE;
            }
            setRow(given, r0, r1, r2);
            setRow(load, 0, 0, 0);
            still = false;
            int rounds = 0;
            while (rounds < most && !still) {
                still = !goRound(100 * determinant);
                rounds++;
            }
            away = greatestDistance();
            return rounds;
        }

        private void setLeft() {
            for (int i = 0; i < METERS; i++) {
                for (int j = 0; j < METERS; j++) {
                    equations.left[i][j] = first[i][j];
                }
            }
        }

        /** Answers whether a load changed. */
        private boolean goRound(long divisor) {
            for (int i = 0; i < METERS; i++) {
                equations.right[i] = given[i] - productsOf(i, load[0], load[1], load[2]);
            }
            boolean changed = false;
            for (int j = 0; j < METERS; j++) {
                int x = nearestLoad(equations.determinant(j), divisor);
                changed = changed || x != load[j];
                load[j] = x;
            }
            return changed;
        }

        private static int nearestLoad(long dividend, long divisor) {
            if (divisor == 0) {
                return 0;
            }
            long nearest = Math.floorDiv(2 * dividend + divisor, 2 * divisor);
            return (int) Math.max(-MOST_LOAD, Math.min(MOST_LOAD, nearest));
        }

        private int greatestDistance() {
            int greatest = 0;
            for (int i = 0; i < METERS; i++) {
                int distance = Math.abs(given[i] - readingOf(i, load[0], load[1], load[2]));
                greatest = Math.max(greatest, distance);
            }
            return greatest;
        }
    }

    /** Calibration points and the first terms that fit them best. */
    private static final class Calibration {
        static final int ROOM = 12;

        final int[][] loads = new int[ROOM][METERS];
        final int[][] readings = new int[ROOM][METERS];
        int count = 0;
        private final Equations equations = new Equations();

        long partOfFit(int i, int j, boolean isNumerator) {
            setEquations(i);
            long determinant = equations.determinant(Equations.NO_COLUMN);
            // The left side is a sum of squares, so its determinant is 0 or above.
            if (determinant <= 0) {
                return 0;
            }
            long numerator = equations.determinant(j);
            long denominator = 100 * determinant;
            long common = commonDivisor(denominator, Math.abs(numerator));
            if (common <= 0) {
                return 0;
            }
            return isNumerator ? numerator / common : denominator / common;
        }

        /** The equations that the least sum of squares obeys; the 100 of a reading is left to the denominator. */
        private void setEquations(int i) {
            for (int j = 0; j < METERS; j++) {
                long right = 0;
                for (int k = 0; k < count; k++) {
                    right += (long) loads[k][j] * readings[k][i];
                }
                equations.right[j] = right;
                for (int l = 0; l < METERS; l++) {
                    equations.left[j][l] = sumOfProducts(j, l);
                }
            }
        }

        private long sumOfProducts(int j, int l) {
            long sum = 0;
            for (int k = 0; k < count; k++) {
                sum += loads[k][j] * loads[k][l];
            }
            return sum;
        }

        private static long commonDivisor(long a, long b) {
            // Each two steps halve the numbers, so 63 bits are used up long before 200 steps.
            for (int step = 0; step < 200 && b != 0; step++) {
                long rest = a % b;
                a = b;
                b = rest;
            }
            return a;
        }

        int greatestMiss(int i, Balance balance) {
            int greatest = 0;
            for (int k = 0; k < count; k++) {
                int[] at = loads[k];
                int distance = Math.abs(readings[k][i] - balance.readingOf(i, at[0], at[1], at[2]));
                greatest = Math.max(greatest, distance);
            }
            return greatest;
        }
    }

    /** One correction of three readings. */
    private static final class Correction {
        private static final int ZERO = 0, DRIFT = 1, PROP = 2, WALL = 3, WEIGHT = 4;
        private static final int[] COS = {
            1000, 966, 866, 707, 500, 259, 0, -259, -500, -707, -866, -966,
            -1000, -966, -866, -707, -500, -259, 0, 259, 500, 707, 866, 966
        };

        boolean on = false;
        private int kind = ZERO;
        private int u = 0;
        private int v = 0;
        private int w = 0;

        static boolean isAsTold(int kind, int u, int v, int w) {
            if (kind == WALL) {
                return isWithin(u, 300);
            }
            return kind >= ZERO && kind <= WEIGHT && isWithin(u, 10000) && isWithin(v, 10000) && isWithin(w, 10000);
        }

        void become(int newKind, int newU, int newV, int newW) {
            on = true;
            kind = newKind;
            u = newU;
            v = newV;
            w = newW;
        }

        /** Corrects a row, whether this correction is on or not. */
        void change(long[] row, int time, int angle) {
            switch (kind) {
                case ZERO:
                    lessen(row, u, v, w);
                    break;
                case DRIFT:
                    lessen(row, drifted(u, time), drifted(v, time), drifted(w, time));
                    break;
                case PROP:
                    lessen(row, 2 * u, 2 * v, 2 * w);
                    break;
                case WALL:
                    for (int i = 0; i < METERS; i++) {
                        row[i] = Math.floorDiv(row[i] * u, 100L);
                    }
                    break;
                default:
                    lessen(row, share(cos(angle)), share(cos(angle - 6)), v);
                    break;
            }
        }

        private static void lessen(long[] row, int by0, int by1, int by2) {
            row[0] -= by0;
            row[1] -= by1;
            row[2] -= by2;
        }

        private static int drifted(int by, int time) {
            return by + Math.floorDiv(by * time, 1000);
        }

        private static int cos(int angle) {
            return COS[Math.floorMod(angle, ANGLES)];
        }

        private int share(int thousandths) {
            return Math.floorDiv(u * thousandths, 1000);
        }
    }

    /** Corrections in their order, and the readings that they correct. */
    private static final class Corrections {
        static final int ROOM = 10;

        final Correction[] row = new Correction[ROOM];
        int count = 0;
        final int[] told = new int[METERS];
        int time = 0;
        int angle = 0;
        final long[] now = new long[METERS];
        private final long[] other = new long[METERS];

        Corrections() {
            for (int k = 0; k < ROOM; k++) {
                row[k] = new Correction();
            }
        }

        int append(int kind, int u, int v, int w) {
            row[count].become(kind, u, v, w);
            count++;
            return count - 1;
        }

        void goThrough(int k, long[] readings) {
            for (int i = 0; i < METERS; i++) {
                readings[i] = told[i];
            }
            for (int c = 0; c < k; c++) {
                changeIfOn(c, readings);
            }
        }

        private void changeIfOn(int c, long[] readings) {
            if (row[c].on) {
                row[c].change(readings, time, angle);
            }
        }

        /** Readings that are the same behind a correction stay the same, so only the place right behind it counts. */
        boolean isFelt(int c) {
            goThrough(c, now);
            goThrough(c, other);
            row[c].change(other, time, angle);
            return differ();
        }

        boolean isOrderFelt(int c) {
            goThrough(c + 2, now);
            goThrough(c, other);
            changeIfOn(c + 1, other);
            changeIfOn(c, other);
            return differ();
        }

        private boolean differ() {
            return now[0] != other[0] || now[1] != other[1] || now[2] != other[2];
        }
    }

    /** Places of angle and speed, and the least way through those that are not done. */
    private static final class Program {
        static final int ROOM = 9;
        /** The start is held as one more place behind all others; it is never gone to. */
        private static final int START = ROOM;

        int count = 0;
        final boolean[] isDone = new boolean[ROOM];
        final int[][] move = new int[ROOM + 1][ROOM + 1];
        boolean isPlanned = false;
        int planned = 0;
        int leastSum = 0;
        final int[] row = new int[ROOM];
        private final int[] angle = new int[ROOM + 1];
        private final int[] speed = new int[ROOM + 1];
        /** For each set of places still to go to: the least sum of moves from each place on. */
        private final int[] rest = new int[(1 << ROOM) * (ROOM + 1)];

        int append(int newAngle, int newSpeed) {
            int p = count;
            angle[p] = newAngle;
            speed[p] = newSpeed;
            isDone[p] = false;
            count++;
            for (int q = 0; q < p; q++) {
                setMove(p, q);
            }
            setMove(p, START);
            isPlanned = false;
            return p;
        }

        private void setMove(int p, int q) {
            int steps = Math.abs(angle[p] - angle[q]);
            int sum = 3 * Math.min(steps, ANGLES - steps) + 7 * Math.abs(speed[p] - speed[q]);
            move[p][q] = sum;
            move[q][p] = sum;
        }

        int howManyDone() {
            int done = 0;
            for (int p = 0; p < count; p++) {
                done += isDone[p] ? 1 : 0;
            }
            return done;
        }

        void plan() {
            if (isPlanned) {
                return;
            }
            int all = setOfOpen();
            for (int set = 1; set <= all; set++) {
                if ((set & all) == set) {
                    setRest(set, all);
                }
            }
            leastSum = rest[cell(all, START)];
            setOrder(all);
            isPlanned = true;
        }

        private int setOfOpen() {
            int set = 0;
            for (int p = 0; p < count; p++) {
                set |= isDone[p] ? 0 : 1 << p;
            }
            return set;
        }

        private void setRest(int set, int all) {
            for (int from = 0; from < count; from++) {
                if (isIn(all & ~set, from)) {
                    rest[cell(set, from)] = sumBy(from, firstOfLeast(from, set), set);
                }
            }
            if (set == all) {
                rest[cell(set, START)] = sumBy(START, firstOfLeast(START, set), set);
            }
        }

        private static int cell(int set, int from) {
            return set * (ROOM + 1) + from;
        }

        private static boolean isIn(int set, int p) {
            return (set & (1 << p)) != 0;
        }

        private int sumBy(int from, int p, int set) {
            return move[from][p] + rest[cell(set & ~(1 << p), p)];
        }

        /** The first place that keeps the least sum, again and again, gives the least row of all. */
        private void setOrder(int all) {
            planned = Integer.bitCount(all);
            int set = all;
            int from = START;
            for (int i = 0; i < planned; i++) {
                int next = firstOfLeast(from, set);
                row[i] = next;
                set &= ~(1 << next);
                from = next;
            }
        }

        private int firstOfLeast(int from, int set) {
            int best = 0;
            int least = Integer.MAX_VALUE;
            for (int p = 0; p < count; p++) {
                int sum = isIn(set, p) ? sumBy(from, p, set) : Integer.MAX_VALUE;
                if (sum < least) {
                    best = p;
                    least = sum;
                }
            }
            return best;
        }
    }

    /** Readings that come one by one until they settle, overload or tire. */
    private static final class Settling {
        static final int WAITS = 0, SETTLED = 1, OVERLOADED = 2, TIRED = 3;
        static final int MOST_N = 8;

        int n = 4;
        int d = 10;
        int most = 20;
        int limit = 1000000;
        int state = WAITS;
        int came = 0;
        int beyond = NONE;
        /** Only the latest eight are kept, in turn. */
        private final int[][] latest = new int[MOST_N][METERS];

        void startAnew() {
            state = WAITS;
            came = 0;
            beyond = NONE;
        }

        int take(int r0, int r1, int r2) {
            int[] row = latest[came % MOST_N];
            setRow(row, r0, r1, r2);
            came++;
            beyond = firstBeyond(row);
            if (beyond != NONE) {
                state = OVERLOADED;
            } else if (isSettled()) {
                state = SETTLED;
            } else if (came >= most) {
                state = TIRED;
            }
            return state;
        }

        private int firstBeyond(int[] row) {
            for (int i = 0; i < METERS; i++) {
                if (Math.abs(row[i]) > limit) {
                    return i;
                }
            }
            return NONE;
        }

        private boolean isSettled() {
            if (came < n) {
                return false;
            }
            for (int i = 0; i < METERS; i++) {
                if (spreadOfLatest(i) > d) {
                    return false;
                }
            }
            return true;
        }

        private int spreadOfLatest(int i) {
            int low = MOST_READING;
            int high = -MOST_READING;
            for (int ago = 1; ago <= n; ago++) {
                int reading = readingAgo(ago, i);
                low = Math.min(low, reading);
                high = Math.max(high, reading);
            }
            return high - low;
        }

        int sumOfLatest(int i) {
            int sum = 0;
            for (int ago = 1; ago <= n; ago++) {
                sum += readingAgo(ago, i);
            }
            return sum;
        }

        private int readingAgo(int ago, int i) {
            return latest[Math.floorMod(came - ago, MOST_N)][i];
        }
    }

    /** Tubes with areas and pressures, and their sum against a load. */
    private static final class Tubes {
        static final int ROOM = 10;
        private static final int MOST_PRESSURE = 1000;

        int count = 0;
        final boolean[] isLost = new boolean[ROOM];
        /** A lost tube holds pressure 0, so that it adds nothing to the sum. */
        final int[] pressure = new int[ROOM];
        private final int[] area = new int[ROOM];

        static boolean isPressure(int p) {
            return isWithin(p, MOST_PRESSURE);
        }

        int append(int newArea) {
            area[count] = newArea;
            isLost[count] = true;
            pressure[count] = 0;
            count++;
            return count - 1;
        }

        void takeFrom(Sheet sheet, int f) {
            for (int k = 0; k < count; k++) {
                int p = sheet.get(f + k);
                isLost[k] = !isPressure(p);
                pressure[k] = isLost[k] ? 0 : p;
            }
        }

        int howManyLost() {
            int lost = 0;
            for (int k = 0; k < count; k++) {
                lost += isLost[k] ? 1 : 0;
            }
            return lost;
        }

        int sum() {
            int sum = 0;
            for (int k = 0; k < count; k++) {
                sum += area[k] * pressure[k];
            }
            return sum;
        }

        int compare(int load, int e) {
            int missing = load - sum();
            if (Math.abs(missing) <= e) {
                return 0;
            }
            int alone = NONE;
            for (int k = 0; k < count; k++) {
                if (canMend(k, missing, e)) {
                    if (alone != NONE) {
                        return 2;
                    }
                    alone = k;
                }
            }
            return alone == NONE ? 1 : 10 + alone;
        }

        /** Whether a pressure of this tube puts the sum at most e away from the load. */
        private boolean canMend(int k, int missing, int e) {
            if (area[k] < 1) {
                return false;
            }
            int share = area[k] * pressure[k] + missing;
            int lowest = -Math.floorDiv(e - share, area[k]);
            int highest = Math.floorDiv(share + e, area[k]);
            return Math.max(lowest, -MOST_PRESSURE) <= Math.min(highest, MOST_PRESSURE);
        }

        int pressureOfLost(int load) {
            int share = load - sum();
            for (int k = 0; k < count; k++) {
                if (isLost[k] && area[k] > 0) {
                    int p = -Math.floorDiv(area[k] - 2 * share, 2 * area[k]);
                    return isPressure(p) ? p : NONE;
                }
            }
            return NONE;
        }
    }

    /** A row of cells of one lane, or nothing. */
    private static final class Sheet {
        static final int ROOM = 60;
        static final int NO_FAULT = 0, NULL = 1, INDEX = 2, CAST = 3, SIZE = 4;
        private static final int NOTHING = -1, BYTES = 0, SHORTS = 1;

        private int lane = NOTHING;
        private int size = 0;
        private final int[] cells = new int[ROOM];

        void makeNew(int newLane, int n) {
            lane = newLane;
            size = n;
            for (int i = 0; i < ROOM; i++) {
                cells[i] = 0;
            }
        }

        int faultOfLane(int asked) {
            if (lane == NOTHING) {
                return NULL;
            }
            return lane == asked ? NO_FAULT : CAST;
        }

        /** The fault of using so many cells from one on; none is used where there are none to use. */
        int faultOfCells(int from, int many) {
            if (lane == NOTHING) {
                return NULL;
            }
            boolean isInside = many == 0 || from >= 0 && from <= size - many;
            return isInside ? NO_FAULT : INDEX;
        }

        void set(int i, int v) {
            if (lane == BYTES) {
                cells[i] = (byte) v;
            } else if (lane == SHORTS) {
                cells[i] = (short) v;
            } else {
                cells[i] = v;
            }
        }

        int get(int i) {
            return cells[i];
        }
    }
}
