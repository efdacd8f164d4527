import java.math.BigInteger;
import java.util.ArrayList;
import java.util.Collections;
import java.util.List;

/** The document once more, by trying things out instead of reckoning them; slow, and free to use the library. */
final class PlainHall {
    private static final int BAD = -1, STATE = -2, FULL = -3, NONE = -4;
    private static final int[][] PRODUCT = {{0, 0}, {0, 1}, {0, 2}, {1, 1}, {1, 2}, {2, 2}};

    private final int[][] a = {{10, 0, 0}, {0, 10, 0}, {0, 0, 10}};
    private final int[][] b = new int[3][6];
    private final int[] found = new int[5];
    private final List<int[]> points = new ArrayList<>();
    private List<int[]> corrections = new ArrayList<>();
    private int[] told = new int[5];
    private final List<int[]> places = new ArrayList<>();
    private int n = 4, d = 10, most = 20, limit = 1000000, state = 0, beyond = NONE;
    private final List<int[]> came = new ArrayList<>();
    private final List<int[]> tubes = new ArrayList<>();
    private final Object[] sheets = new Object[4];

    private static boolean out(int v, int low, int high) {
        return v < low || v > high;
    }

    private static boolean outLoads(int... loads) {
        boolean any = false;
        for (int load : loads) {
            any |= out(load, -50, 50);
        }
        return any;
    }

    private static boolean outReadings(int... readings) {
        boolean any = false;
        for (int reading : readings) {
            any |= out(reading, -2000000, 2000000);
        }
        return any;
    }

    // ---- the balance

    int first(int i, int j, int v) {
        if (out(i, 0, 2) || out(j, 0, 2) || out(v, -100, 100)) {
            return BAD;
        }
        a[i][j] = v;
        return 1;
    }

    int second(int i, int p, int v) {
        if (out(i, 0, 2) || out(p, 0, 5) || out(v, -20, 20)) {
            return BAD;
        }
        b[i][p] = v;
        return 1;
    }

    int reading(int i, int x, int y, int z) {
        return out(i, 0, 2) || outLoads(x, y, z) ? 9999999 : readingAt(i, new int[] {x, y, z});
    }

    private int readingAt(int i, int[] loads) {
        int sum = 0;
        for (int j = 0; j < 3; j++) {
            sum += 100 * a[i][j] * loads[j];
        }
        return sum + productsAt(i, loads);
    }

    private int productsAt(int i, int[] loads) {
        int sum = 0;
        for (int p = 0; p < 6; p++) {
            sum += b[i][p] * loads[PRODUCT[p][0]] * loads[PRODUCT[p][1]];
        }
        return sum;
    }

    int back(int r0, int r1, int r2, int rounds) {
        if (outReadings(r0, r1, r2) || out(rounds, 1, 50)) {
            return BAD;
        }
        int[] r = {r0, r1, r2};
        int[] loads = {0, 0, 0};
        for (int round = 1; round <= rounds; round++) {
            Fraction[][] rows = new Fraction[3][4];
            for (int i = 0; i < 3; i++) {
                for (int j = 0; j < 3; j++) {
                    rows[i][j] = Fraction.of(100L * a[i][j]);
                }
                rows[i][3] = Fraction.of(r[i] - productsAt(i, loads));
            }
            Fraction[] x = solve(rows);
            if (x == null) {
                return STATE;
            }
            int[] next = new int[3];
            for (int j = 0; j < 3; j++) {
                next[j] = x[j].nearestHeld();
            }
            boolean same = java.util.Arrays.equals(next, loads);
            loads = next;
            if (same || round == rounds) {
                keepFound(r, loads, same);
                return round;
            }
        }
        throw new IllegalStateException();
    }

    private void keepFound(int[] r, int[] loads, boolean same) {
        found[3] = same ? 1 : 0;
        found[4] = 0;
        for (int i = 0; i < 3; i++) {
            found[i] = loads[i];
            found[4] = Math.max(found[4], Math.abs(r[i] - readingAt(i, loads)));
        }
    }

    int found(int what) {
        return out(what, 0, 4) ? 0 : found[what];
    }

    int point(int x, int y, int z, int r0, int r1, int r2) {
        if (outLoads(x, y, z) || outReadings(r0, r1, r2)) {
            return BAD;
        }
        if (points.size() == 12) {
            return FULL;
        }
        points.add(new int[] {x, y, z, r0, r1, r2});
        return points.size();
    }

    long fit(int i, int j, int what) {
        if (out(i, 0, 2) || out(j, 0, 2) || out(what, 0, 1)) {
            return -1000000000000L;
        }
        Fraction[][] rows = new Fraction[3][4];
        for (int k = 0; k < 3; k++) {
            for (int l = 0; l < 4; l++) {
                rows[k][l] = Fraction.of(0);
                for (int[] p : points) {
                    Fraction by = Fraction.of(l < 3 ? 100L * p[l] : p[3 + i]);
                    rows[k][l] = rows[k][l].plus(by.times(Fraction.of(100L * p[k])));
                }
            }
        }
        Fraction[] x = solve(rows);
        if (x == null) {
            return 0;
        }
        return (what == 0 ? x[j].top : x[j].bottom).longValueExact();
    }

    int miss(int i) {
        if (out(i, 0, 2)) {
            return BAD;
        }
        int greatest = NONE;
        for (int[] p : points) {
            greatest = Math.max(greatest, Math.abs(p[3 + i] - readingAt(i, p)));
        }
        return greatest;
    }

    int forget() {
        int had = points.size();
        points.clear();
        return had;
    }

    /** By elimination; null if there is no only one. */
    private static Fraction[] solve(Fraction[][] rows) {
        for (int c = 0; c < 3; c++) {
            int at = c;
            while (at < 3 && rows[at][c].isZero()) {
                at++;
            }
            if (at == 3) {
                return null;
            }
            Fraction[] row = rows[at];
            rows[at] = rows[c];
            rows[c] = row;
            for (int i = 0; i < 3; i++) {
                if (i != c) {
                    Fraction by = rows[i][c].by(row[c]);
                    for (int l = 0; l < 4; l++) {
                        rows[i][l] = rows[i][l].less(row[l].times(by));
                    }
                }
            }
        }
        return new Fraction[] {rows[0][3].by(rows[0][0]), rows[1][3].by(rows[1][1]), rows[2][3].by(rows[2][2])};
    }

    private static final class Fraction {
        final BigInteger top;
        final BigInteger bottom;

        Fraction(BigInteger top, BigInteger bottom) {
            BigInteger common = top.gcd(bottom);
            if (bottom.signum() < 0) {
                common = common.negate();
            }
            this.top = top.divide(common);
            this.bottom = bottom.divide(common);
        }

        static Fraction of(long v) {
            return new Fraction(BigInteger.valueOf(v), BigInteger.ONE);
        }

        boolean isZero() {
            return top.signum() == 0;
        }

        Fraction plus(Fraction o) {
            return new Fraction(top.multiply(o.bottom).add(o.top.multiply(bottom)), bottom.multiply(o.bottom));
        }

        Fraction less(Fraction o) {
            return plus(o.times(of(-1)));
        }

        Fraction times(Fraction o) {
            return new Fraction(top.multiply(o.top), bottom.multiply(o.bottom));
        }

        Fraction by(Fraction o) {
            return new Fraction(top.multiply(o.bottom), bottom.multiply(o.top));
        }

        /** The greatest whole number of -50 to 50 that is at most this and a half. */
        int nearestHeld() {
            Fraction up = plus(new Fraction(BigInteger.ONE, BigInteger.TWO));
            for (int v = 50; v > -50; v--) {
                if (up.less(of(v)).top.signum() >= 0) {
                    return v;
                }
            }
            return -50;
        }
    }

    // ---- corrections: each a row of kind, u, v, w, on

    int correct(int kind, int u, int v, int w) {
        if (out(kind, 0, 4) || kind == 3 && out(u, -300, 300)) {
            return BAD;
        }
        if (kind != 3 && (out(u, -10000, 10000) || out(v, -10000, 10000) || out(w, -10000, 10000))) {
            return BAD;
        }
        if (corrections.size() == 10) {
            return FULL;
        }
        corrections.add(new int[] {kind, u, v, w, 1});
        return corrections.size() - 1;
    }

    int turn(int k, boolean on) {
        if (out(k, 0, corrections.size() - 1)) {
            return BAD;
        }
        int was = corrections.get(k)[4];
        corrections.get(k)[4] = on ? 1 : 0;
        return was;
    }

    int swap(int k) {
        if (out(k, 0, corrections.size() - 2)) {
            return BAD;
        }
        Collections.swap(corrections, k, k + 1);
        return 1;
    }

    int drop() {
        if (corrections.isEmpty()) {
            return NONE;
        }
        corrections.remove(corrections.size() - 1);
        return corrections.size();
    }

    int raw(int r0, int r1, int r2, int time, int angle) {
        if (outReadings(r0, r1, r2) || out(time, 0, 1000) || out(angle, 0, 23)) {
            return BAD;
        }
        told = new int[] {r0, r1, r2, time, angle};
        return 1;
    }

    long corrected(int i, int k) {
        return out(i, 0, 2) || out(k, 0, corrections.size()) ? 0 : behind(corrections, k)[i];
    }

    private long[] behind(List<int[]> row, int k) {
        long[] now = {told[0], told[1], told[2]};
        for (int[] c : row.subList(0, k)) {
            for (int i = 0; c[4] == 1 && i < 3; i++) {
                now[i] = correctOne(c, i, now[i]);
            }
        }
        return now;
    }

    private long correctOne(int[] c, int i, long r) {
        long by = c[1 + i];
        switch (c[0]) {
            case 0:
                return r - by;
            case 1:
                return r - by - down(by * told[3], 1000);
            case 2:
                return r - by - by;
            case 3:
                return down(r * c[1], 100);
            default:
                return i == 2 ? r - c[2] : r - down((long) c[1] * (i == 0 ? cos(told[4]) : cos(told[4] - 6)), 1000);
        }
    }

    private static long down(long v, long by) {
        long q = v / by;
        return q * by > v ? q - 1 : q;
    }

    private static int cos(int k) {
        if (k < 0) {
            return cos(k + 24);
        }
        if (k <= 6) {
            return new int[] {1000, 966, 866, 707, 500, 259, 0}[k];
        }
        return k <= 12 ? -cos(12 - k) : cos(24 - k);
    }

    int touches(int c) {
        if (out(c, 0, corrections.size() - 1)) {
            return BAD;
        }
        List<int[]> other = new ArrayList<>(corrections);
        int[] turned = corrections.get(c).clone();
        turned[4] = 1 - turned[4];
        other.set(c, turned);
        for (int k = 0; k <= corrections.size(); k++) {
            if (!java.util.Arrays.equals(behind(corrections, k), behind(other, k))) {
                return k;
            }
        }
        return NONE;
    }

    int minds(int c) {
        if (out(c, 0, corrections.size() - 2)) {
            return BAD;
        }
        List<int[]> other = new ArrayList<>(corrections);
        Collections.swap(other, c, c + 1);
        return java.util.Arrays.equals(behind(corrections, c + 2), behind(other, c + 2)) ? 0 : 1;
    }

    // ---- programs: each place a row of angle, speed, done

    int place(int angle, int speed) {
        if (out(angle, 0, 23) || out(speed, 0, 9)) {
            return BAD;
        }
        if (places.size() == 9) {
            return FULL;
        }
        places.add(new int[] {angle, speed, 0});
        return places.size() - 1;
    }

    int done(int p, boolean is) {
        if (out(p, 0, places.size() - 1)) {
            return BAD;
        }
        int was = places.get(p)[2];
        places.get(p)[2] = is ? 1 : 0;
        return was;
    }

    int moves(int p, int q) {
        return out(p, 0, places.size() - 1) || out(q, 0, places.size() - 1) ? BAD : move(places.get(p), places.get(q));
    }

    private static int move(int[] p, int[] q) {
        int up = (q[0] - p[0] + 24) % 24;
        int down = (p[0] - q[0] + 24) % 24;
        return 3 * Math.min(up, down) + 7 * Math.abs(p[1] - q[1]);
    }

    private int bestSum;
    private List<Integer> bestRow;

    /** All orders, the lesser rows first, so that the first of the least is kept. */
    private void tryAll(List<Integer> row, int sum, int[] at) {
        boolean any = false;
        for (int p = 0; p < places.size(); p++) {
            if (places.get(p)[2] == 0 && !row.contains(p)) {
                any = true;
                row.add(p);
                tryAll(row, sum + move(at, places.get(p)), places.get(p));
                row.remove(row.size() - 1);
            }
        }
        if (!any && sum < bestSum) {
            bestSum = sum;
            bestRow = new ArrayList<>(row);
        }
    }

    int least() {
        bestSum = Integer.MAX_VALUE;
        tryAll(new ArrayList<>(), 0, new int[] {0, 0, 0});
        return bestSum;
    }

    int order(int i) {
        if (i < 0) {
            return BAD;
        }
        least();
        return i < bestRow.size() ? bestRow.get(i) : NONE;
    }

    // ---- settling

    int rule(int newN, int newD, int newMost, int newLimit) {
        if (out(newN, 1, 8) || out(newD, 0, 100000) || out(newMost, 1, 100) || out(newLimit, 1, 2000000)) {
            return BAD;
        }
        n = newN;
        d = newD;
        most = newMost;
        limit = newLimit;
        anew();
        return 1;
    }

    int come(int r0, int r1, int r2) {
        if (outReadings(r0, r1, r2)) {
            return BAD;
        }
        if (state != 0) {
            return STATE;
        }
        int[] row = {r0, r1, r2};
        came.add(row);
        for (int i = 2; i >= 0; i--) {
            if (out(row[i], -limit, limit)) {
                beyond = i;
                state = 2;
            }
        }
        if (state == 0 && isSettled()) {
            state = 1;
        }
        if (state == 0 && came.size() == most) {
            state = 3;
        }
        return state;
    }

    private boolean isSettled() {
        if (came.size() < n) {
            return false;
        }
        List<int[]> latest = came.subList(came.size() - n, came.size());
        for (int[] one : latest) {
            for (int[] other : latest) {
                for (int i = 0; i < 3; i++) {
                    if (one[i] - other[i] > d) {
                        return false;
                    }
                }
            }
        }
        return true;
    }

    int settled(int what) {
        if (out(what, 0, 5)) {
            return BAD;
        }
        if (what < 3) {
            return new int[] {state, came.size(), beyond}[what];
        }
        int sum = 0;
        for (int k = came.size() - n; state == 1 && k < came.size(); k++) {
            sum += came.get(k)[what - 3];
        }
        return sum;
    }

    int anew() {
        int had = came.size();
        came.clear();
        state = 0;
        beyond = NONE;
        return had;
    }

    // ---- tubes: each a row of area, lost, pressure; sheets as the machine's own rows

    int tube(int area) {
        if (out(area, 1, 100)) {
            return BAD;
        }
        if (tubes.size() == 10) {
            return FULL;
        }
        tubes.add(new int[] {area, 1, 0});
        return tubes.size() - 1;
    }

    int press(int k, boolean lost, int p) {
        if (out(k, 0, tubes.size() - 1) || !lost && out(p, -1000, 1000)) {
            return BAD;
        }
        tubes.get(k)[1] = lost ? 1 : 0;
        tubes.get(k)[2] = p;
        return 1;
    }

    int sheet(int k, int lane, int size) {
        if (out(k, 0, 3) || out(lane, 0, 2) || size > 60) {
            return BAD;
        }
        try {
            sheets[k] = lane == 0 ? new byte[size] : lane == 1 ? new short[size] : new int[size];
            return 1;
        } catch (NegativeArraySizeException fault) {
            return -14;
        }
    }

    int lay(int k, int i, int v) {
        if (out(k, 0, 3)) {
            return BAD;
        }
        if (sheets[k] == null) {
            return -11;
        }
        try {
            if (sheets[k] instanceof byte[]) {
                ((byte[]) sheets[k])[i] = (byte) v;
            } else if (sheets[k] instanceof short[]) {
                ((short[]) sheets[k])[i] = (short) v;
            } else {
                ((int[]) sheets[k])[i] = v;
            }
            return 1;
        } catch (ArrayIndexOutOfBoundsException fault) {
            return -12;
        }
    }

    int scan(int k, int lane, int f) {
        if (out(k, 0, 3) || out(lane, 0, 2)) {
            return BAD;
        }
        if (sheets[k] == null) {
            return -11;
        }
        int[] cells = new int[tubes.size()];
        try {
            byte[] bytes = lane == 0 ? (byte[]) sheets[k] : null;
            short[] shorts = lane == 1 ? (short[]) sheets[k] : null;
            int[] ints = lane == 2 ? (int[]) sheets[k] : null;
            for (int i = 0; i < cells.length; i++) {
                cells[i] = lane == 0 ? bytes[f + i] : lane == 1 ? shorts[f + i] : ints[f + i];
            }
        } catch (ClassCastException fault) {
            return -13;
        } catch (ArrayIndexOutOfBoundsException fault) {
            return -12;
        }
        for (int i = 0; i < cells.length; i++) {
            tubes.get(i)[1] = out(cells[i], -1000, 1000) ? 1 : 0;
            tubes.get(i)[2] = cells[i];
        }
        return count(5);
    }

    int force() {
        int sum = 0;
        for (int[] t : tubes) {
            sum += t[1] == 1 ? 0 : t[0] * t[2];
        }
        return sum;
    }

    int check(int load, int e) {
        if (out(e, 0, 100000) || outReadings(load)) {
            return BAD;
        }
        if (count(5) > 0) {
            return STATE;
        }
        if (Math.abs(force() - load) <= e) {
            return 0;
        }
        List<Integer> able = new ArrayList<>();
        for (int k = 0; k < tubes.size(); k++) {
            int rest = force() - tubes.get(k)[0] * tubes.get(k)[2];
            for (int p = -1000; p <= 1000; p++) {
                if (Math.abs(rest + tubes.get(k)[0] * p - load) <= e && !able.contains(k)) {
                    able.add(k);
                }
            }
        }
        return able.isEmpty() ? 1 : able.size() > 1 ? 2 : 10 + able.get(0);
    }

    int fill(int load) {
        if (outReadings(load)) {
            return BAD;
        }
        if (count(5) != 1) {
            return STATE;
        }
        int area = 0;
        for (int[] t : tubes) {
            area = t[1] == 1 ? t[0] : area;
        }
        int best = 0;
        int away = Integer.MAX_VALUE;
        // One beyond each end tells whether the next one would lie outside.
        for (int p = -1001; p <= 1001; p++) {
            int distance = Math.abs(force() + area * p - load);
            if (distance < away) {
                away = distance;
                best = p;
            }
        }
        return out(best, -1000, 1000) ? NONE : best;
    }

    int count(int what) {
        int marked = 0;
        for (int[] row : what == 3 ? places : tubes) {
            marked += row[what == 3 ? 2 : 1];
        }
        switch (what) {
            case 0:
                return points.size();
            case 1:
                return corrections.size();
            case 2:
                return places.size();
            case 3:
            case 5:
                return marked;
            case 4:
                return tubes.size();
            default:
                return BAD;
        }
    }
}
