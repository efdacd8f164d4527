/** The sentences on tubes, sheets and counts that name an edge: promises 28 to 36. */
public final class EdgesOfTubesTest {
    private static final Due DUE = new Due("EdgesOfTubesTest");
    private static final int BAD = WindHall.BAD, STATE = WindHall.STATE, FULL = WindHall.FULL, NONE = WindHall.NONE;
    private static final int NULL = -11, INDEX = -12, CAST = -13, SIZE = -14;
    private static final int MIN = Integer.MIN_VALUE, MAX = Integer.MAX_VALUE;

    public static void main(String[] args) {
        room();
        areas();
        pressures();
        pressOfNone();
        sheetsOfNothing();
        sheetsAndLanes();
        cells();
        sizeBelowZero();
        newRows();
        layIndex();
        lowestBits();
        scanCells();
        scanLost();
        scanFaults();
        scanOfNoTubes();
        forces();
        checkRefused();
        checkAtMostE();
        checkOneOrSeveral();
        checkAtPressureEnds();
        fillNextToLoad();
        fillAtPressureEnds();
        fillRefused();
        fillAsAnswers();
        counts();
        DUE.end();
    }

    private static WindHall hallOf(int... areasAndPressures) {
        WindHall x = new WindHall();
        for (int k = 0; 2 * k < areasAndPressures.length; k++) {
            x.tube(areasAndPressures[2 * k]);
            x.press(k, false, areasAndPressures[2 * k + 1]);
        }
        return x;
    }

    private static void room() {
        DUE.says(28, "TUBES (10)");
        WindHall x = new WindHall();
        for (int n = 0; n < 10; n++) {
            DUE.due("number", x.tube(n + 1), n);
            DUE.due("press", x.press(n, false, 1), 1);
        }
        for (int n = 0; n < 3; n++) {
            DUE.due("the eleventh", x.tube(1), FULL);
            DUE.due("BAD is first", x.tube(0), BAD);
            DUE.due("there are", x.count(4), 10);
            DUE.due("none is lost", x.count(5), 0);
            DUE.due("the sum of ten", x.force(), 55);
            DUE.due("the eleventh is none", x.press(10, true, 0), BAD);
        }
    }

    private static void areas() {
        DUE.says(28, "each an AREA (1 to 100)");
        WindHall x = new WindHall();
        for (int area : new int[] {0, -1, 101, MIN, MAX}) {
            DUE.due("AREA " + area, x.tube(area), BAD);
            DUE.due("none came", x.count(4), 0);
        }
        DUE.due("AREA 1", x.tube(1), 0);
        DUE.due("AREA 100", x.tube(100), 1);
        DUE.says(28, "A TUBE of an AREA, LOST: its number.");
        DUE.due("both are lost", x.count(5), 2);
        DUE.due("they add nothing", x.force(), 0);
        x.press(0, false, 1);
        DUE.due("by AREA 1", x.force(), 1);
        x.press(1, false, 1);
        DUE.due("by AREA 100", x.force(), 101);
    }

    private static void pressures() {
        DUE.says(29, "a PRESSURE (-1000 to 1000) or LOST");
        WindHall x = new WindHall();
        x.tube(1);
        for (int end : new int[] {-1000, 1000}) {
            int beyond = end + Integer.signum(end);
            DUE.due("PRESSURE " + end, x.press(0, false, end), 1);
            DUE.due("PRESSURE " + beyond, x.press(0, false, beyond), BAD);
            DUE.due("it stays", x.force(), end);
            DUE.due("it is not lost", x.count(5), 0);
        }
        DUE.due("LOST", x.press(0, true, 0), 1);
        DUE.due("PRESSURE 1001", x.press(0, false, 1001), BAD);
        DUE.due("it stays lost", x.count(5), 1);
        DUE.due("LOST again", x.press(0, true, 0), 1);
        DUE.due("one is lost", x.count(5), 1);
        DUE.due("nothing in the sum", x.force(), 0);
    }

    private static void pressOfNone() {
        DUE.says(29, "Its PRESSURE (lost false), or LOST: 1. BAD.");
        WindHall x = new WindHall();
        DUE.due("of none", x.press(0, false, 0), BAD);
        DUE.due("of none", x.press(0, true, 0), BAD);
        for (int n = 0; n < 10; n++) {
            x.tube(1);
            DUE.due("the last", x.press(n, false, 1), 1);
            DUE.due("the first", x.press(0, false, 1), 1);
            for (int k : new int[] {-1, n + 1, MIN, MAX}) {
                DUE.due("press " + k, x.press(k, false, 5), BAD);
                DUE.due("lost " + k, x.press(k, true, 5), BAD);
            }
            DUE.due("the sum", x.force(), n + 1);
        }
    }

    private static void sheetsOfNothing() {
        DUE.says(1, "or nothing (at first)");
        WindHall x = new WindHall();
        x.tube(1);
        for (int k = 0; k < 4; k++) {
            DUE.due("lay", x.lay(k, 0, 1), NULL);
            for (int lane = 0; lane < 3; lane++) {
                DUE.due("scan", x.scan(k, lane, 0), NULL);
            }
        }
        x.sheet(2, 1, 1);
        DUE.due("one is there", x.lay(2, 0, 1), 1);
        for (int k : new int[] {0, 1, 3}) {
            DUE.due("the others are not", x.lay(k, 0, 1), NULL);
            DUE.due("the others are not", x.scan(k, 1, 0), NULL);
        }
    }

    private static void sheetsAndLanes() {
        DUE.says(30, "SHEETS 0 to 3 are rows of BYTES (lane 0), SHORTS (1), INTS (2)");
        WindHall x = new WindHall();
        DUE.due("SHEET -1", x.sheet(-1, 0, 1), BAD);
        DUE.due("SHEET 4", x.sheet(4, 0, 1), BAD);
        DUE.due("lane -1", x.sheet(0, -1, 1), BAD);
        DUE.due("lane 3", x.sheet(0, 3, 1), BAD);
        DUE.due("it is nothing still", x.lay(0, 0, 1), NULL);
        DUE.due("lay of -1", x.lay(-1, 0, 1), BAD);
        DUE.due("lay of 4", x.lay(4, 0, 1), BAD);
        DUE.due("scan of -1", x.scan(-1, 0, 0), BAD);
        DUE.due("scan of 4", x.scan(4, 0, 0), BAD);
        DUE.due("scan of lane -1", x.scan(0, -1, 0), BAD);
        DUE.due("scan of lane 3", x.scan(0, 3, 0), BAD);
        DUE.due("SHEET 0, lane 0", x.sheet(0, 0, 1), 1);
        DUE.due("SHEET 3, lane 2", x.sheet(3, 2, 1), 1);
        DUE.due("lay of 0", x.lay(0, 0, 1), 1);
        DUE.due("lay of 3", x.lay(3, 0, 1), 1);
        DUE.due("scan of 0", x.scan(0, 0, 0), 0);
        DUE.due("scan of 3", x.scan(3, 2, 0), 0);
    }

    private static void cells() {
        DUE.says(30, "with 0 to 60 CELLS");
        for (int lane = 0; lane < 3; lane++) {
            WindHall x = new WindHall();
            DUE.due("61", x.sheet(1, lane, 61), BAD);
            DUE.due("far above", x.sheet(1, lane, MAX), BAD);
            DUE.due("it is nothing still", x.lay(1, 0, 1), NULL);
            DUE.due("60", x.sheet(1, lane, 60), 1);
            DUE.due("the last CELL", x.lay(1, 59, 1), 1);
            DUE.due("behind it", x.lay(1, 60, 1), INDEX);
            DUE.due("1", x.sheet(1, lane, 1), 1);
            DUE.due("the one CELL", x.lay(1, 0, 1), 1);
            DUE.due("behind it", x.lay(1, 1, 1), INDEX);
            DUE.due("0", x.sheet(1, lane, 0), 1);
            DUE.due("no CELL, but not nothing", x.lay(1, 0, 1), INDEX);
        }
    }

    private static void sizeBelowZero() {
        DUE.says(30, "BAD: also n above 60; -10 - 4.");
        WindHall x = new WindHall();
        for (int n : new int[] {-1, -60, MIN}) {
            DUE.due("n " + n, x.sheet(0, 0, n), SIZE);
            DUE.due("it is nothing still", x.lay(0, 0, 1), NULL);
            DUE.due("BAD is first", x.sheet(4, 0, n), BAD);
            DUE.due("BAD is first", x.sheet(0, -1, n), BAD);
        }
        x.tube(1);
        x.sheet(0, 1, 2);
        x.lay(0, 1, 300);
        DUE.due("n -1", x.sheet(0, 2, -1), SIZE);
        DUE.due("n 61", x.sheet(0, 2, 61), BAD);
        DUE.due("the old one stands", x.scan(0, 1, 1), 0);
        DUE.due("with its CELLS", x.force(), 300);
        DUE.due("n 0", x.sheet(0, 2, 0), 1);
        DUE.due("the old one is gone", x.scan(0, 1, 1), CAST);
    }

    private static void newRows() {
        DUE.says(30, "A SHEET is a new row of CELLS 0: 1.");
        for (int many : new int[] {1, 10, 60}) {
            WindHall x = new WindHall();
            x.tube(1);
            x.sheet(0, 2, 60);
            for (int i = 0; i < 60; i++) {
                x.lay(0, i, 5);
            }
            DUE.due("again", x.sheet(0, 2, many), 1);
            for (int i = 0; i < many; i++) {
                DUE.due("scan", x.scan(0, 2, i), 0);
                DUE.due("CELL " + i, x.force(), 0);
            }
            DUE.due("behind it", x.scan(0, 2, many), INDEX);
            DUE.due("longer again", x.sheet(0, 2, 60), 1);
            DUE.due("scan", x.scan(0, 2, 59), 0);
            DUE.due("the last is not what it once was", x.force(), 0);
        }
    }

    private static void layIndex() {
        DUE.says(31, "BAD: k; -10 less the FAULT: NULL, INDEX.");
        WindHall x = new WindHall();
        for (int i : new int[] {0, -1, 60, MIN, MAX}) {
            DUE.due("BAD is first", x.lay(4, i, 1), BAD);
            DUE.due("then NULL", x.lay(0, i, 1), NULL);
        }
        for (int n = 0; n <= 60; n++) {
            x.sheet(0, n % 3, n);
            DUE.due("behind the last of " + n, x.lay(0, n, 1), INDEX);
            DUE.due("ahead of the first of " + n, x.lay(0, -1, 1), INDEX);
            DUE.due("the last of " + n, x.lay(0, n - 1, 1), n > 0 ? 1 : INDEX);
            DUE.due("the first of " + n, x.lay(0, 0, 1), n > 0 ? 1 : INDEX);
        }
        DUE.due("far below", x.lay(0, MIN, 1), INDEX);
        DUE.due("far above", x.lay(0, MAX, 1), INDEX);
    }

    private static void dueCell(int lane, int v, int want) {
        WindHall x = hallOf(1, 7);
        x.sheet(3, lane, 1);
        DUE.due("lay " + v, x.lay(3, 0, v), 1);
        boolean isPressure = want >= -1000 && want <= 1000;
        DUE.due(v + " in lane " + lane + " is lost", x.scan(3, lane, 0), isPressure ? 0 : 1);
        DUE.due(v + " in lane " + lane, x.force(), isPressure ? want : 0);
    }

    private static void lowestBits() {
        DUE.says(31, "CELL i of a SHEET becomes v (its lowest bits): 1.");
        int[][] bytes = {{127, 127}, {128, -128}, {129, -127}, {255, -1}, {256, 0}, {257, 1}, {-128, -128}, {-129, 127}, {-256, 0},
            {1000, -24}, {MAX, -1}, {MIN, 0}};
        for (int[] b : bytes) {
            dueCell(0, b[0], b[1]);
        }
        int[][] shorts = {{127, 127}, {128, 128}, {1000, 1000}, {1001, 1001}, {32767, 32767}, {32768, -32768}, {65535, -1}, {65536, 0},
            {66536, 1000}, {66537, 1001}, {64536, -1000}, {64535, -1001}, {-32768, -32768}, {-32769, 32767}, {-65536, 0}, {MAX, -1}, {MIN, 0}};
        for (int[] s : shorts) {
            dueCell(1, s[0], s[1]);
        }
        for (int v : new int[] {1000, 1001, -1000, -1001, 32768, 65536, 66536, MAX, MIN, 0, -1}) {
            dueCell(2, v, v);
        }
    }

    private static void scanCells() {
        DUE.says(32, "CELL f + i of TUBE i");
        for (int tubes = 1; tubes <= 10; tubes++) {
            WindHall x = new WindHall();
            for (int k = 0; k < tubes; k++) {
                x.tube(k + 1);
            }
            for (int lane = 0; lane < 3; lane++) {
                x.sheet(lane, lane, 12);
                for (int i = 0; i < 12; i++) {
                    x.lay(lane, i, i * i);
                }
                for (int f = -1; f <= 13 - tubes; f++) {
                    boolean isInside = f >= 0 && f <= 12 - tubes;
                    int sum = 0;
                    for (int k = 0; k < tubes; k++) {
                        sum += (k + 1) * (f + k) * (f + k);
                    }
                    DUE.due(tubes + " from " + f, x.scan(lane, lane, f), isInside ? 0 : INDEX);
                    if (isInside) {
                        DUE.due("the sum from " + f, x.force(), sum);
                    }
                }
            }
        }
        WindHall x = new WindHall();
        for (int k = 0; k < 10; k++) {
            x.tube(1);
        }
        x.sheet(0, 0, 60);
        x.lay(0, 59, 3);
        DUE.due("the last ten of sixty", x.scan(0, 0, 50), 0);
        DUE.due("the sum", x.force(), 3);
        DUE.due("one too far", x.scan(0, 0, 51), INDEX);
        x.sheet(0, 0, 9);
        DUE.due("nine for ten", x.scan(0, 0, 0), INDEX);
        x.sheet(0, 0, 10);
        DUE.due("ten for ten", x.scan(0, 0, 0), 0);
    }

    private static void scanLost() {
        DUE.says(32, "(one that is not -1000 to 1000: LOST): how many are LOST then");
        WindHall x = hallOf(1, 5, 10, 5, 100, 5);
        x.sheet(0, 2, 7);
        int[] cells = {1000, -1000, 1001, -1001, MAX, MIN, 0};
        for (int i = 0; i < 7; i++) {
            x.lay(0, i, cells[i]);
        }
        int[] lost = {1, 2, 3, 3, 2};
        int[] sums = {1000 - 10000, -1000, 0, 0, 0};
        for (int f = 0; f < 5; f++) {
            DUE.due("from " + f, x.scan(0, 2, f), lost[f]);
            DUE.due("lost from " + f, x.count(5), lost[f]);
            DUE.due("sum from " + f, x.force(), sums[f]);
        }
        DUE.due("found again", x.scan(0, 2, 0), 1);
        DUE.due("found again", x.force(), 1000 - 10000);
    }

    private static void scanFaults() {
        DUE.says(32, "BAD: k, lane; -10 less the FAULT: NULL, CAST, INDEX: then none changed.");
        for (int lane = 0; lane < 3; lane++) {
            WindHall x = hallOf(1, 5, 1, 6);
            x.press(1, true, 0);
            x.sheet(0, lane, 1);
            for (int f : new int[] {-1, 0, 1, MIN, MAX}) {
                DUE.due("BAD k", x.scan(4, lane, f), BAD);
                DUE.due("BAD lane", x.scan(0, 3, f), BAD);
                DUE.due("BAD lane ahead of NULL", x.scan(1, -1, f), BAD);
                DUE.due("NULL", x.scan(1, lane, f), NULL);
                DUE.due("CAST", x.scan(0, (lane + 1) % 3, f), CAST);
                DUE.due("CAST", x.scan(0, (lane + 2) % 3, f), CAST);
                DUE.due("INDEX", x.scan(0, lane, f), INDEX);
                DUE.due("none changed", x.force(), 5);
                DUE.due("none changed", x.count(5), 1);
            }
            x.sheet(0, lane, 2);
            DUE.due("no FAULT", x.scan(0, lane, 0), 0);
            DUE.due("both changed", x.force(), 0);
        }
    }

    private static void scanOfNoTubes() {
        DUE.says(32, "PRESSURES of all TUBES from CELLS of a SHEET taken as of a lane");
        WindHall x = new WindHall();
        DUE.due("nothing", x.scan(0, 0, 0), NULL);
        for (int n : new int[] {0, 1, 60}) {
            x.sheet(0, 1, n);
            DUE.due("no TUBE, no CELL", x.scan(0, 1, 0), 0);
            DUE.due("another lane", x.scan(0, 0, 0), CAST);
        }
    }

    private static void forces() {
        DUE.says(33, "The sum of AREA times PRESSURE of TUBES that are not LOST.");
        WindHall x = new WindHall();
        DUE.due("of none", x.force(), 0);
        for (int k = 0; k < 10; k++) {
            x.tube(100);
            DUE.due("a lost one adds nothing", x.force(), 100000 * k);
            x.press(k, false, 1000);
            DUE.due("one more", x.force(), 100000 * (k + 1));
        }
        for (int k = 0; k < 10; k++) {
            x.press(k, false, -1000);
            DUE.due("one less", x.force(), 1000000 - 200000 * (k + 1));
        }
        for (int k = 0; k < 10; k++) {
            x.press(k, true, 1000);
            DUE.due("one lost", x.force(), -1000000 + 100000 * (k + 1));
        }
    }

    private static void checkRefused() {
        DUE.says(34, "BAD: e, a load not -2000000 to 2000000; STATE: some are LOST.");
        WindHall x = hallOf(2, 3);
        DUE.due("e 0", x.check(6, 0), 0);
        DUE.due("e -1", x.check(6, -1), BAD);
        DUE.due("e 100000", x.check(100006, 100000), 0);
        DUE.due("e 100001", x.check(6, 100001), BAD);
        DUE.due("load 2000000", x.check(2000000, 0), 1);
        DUE.due("load 2000001", x.check(2000001, 0), BAD);
        DUE.due("load -2000000", x.check(-2000000, 0), 1);
        DUE.due("load -2000001", x.check(-2000001, 0), BAD);
        x.tube(1);
        for (int n = 0; n < 2; n++) {
            DUE.due("some are lost", x.check(6, 0), STATE);
            DUE.due("BAD e is first", x.check(6, 100001), BAD);
            DUE.due("BAD load is first", x.check(2000001, 0), BAD);
            x.press(0, true, 0);
        }
        x.press(0, false, 3);
        DUE.due("one is lost", x.check(6, 0), STATE);
        x.press(1, false, 0);
        DUE.due("none is lost", x.check(6, 0), 0);
    }

    private static void checkAtMostE() {
        DUE.says(34, "0: it is at most e away");
        WindHall ten = new WindHall();
        for (int k = 0; k < 10; k++) {
            ten.tube(100);
            ten.press(k, false, 1000);
        }
        for (int e : new int[] {0, 1, 99999, 100000}) {
            WindHall none = new WindHall();
            WindHall one = hallOf(100, 1000);
            for (int sign = -1; sign <= 1; sign += 2) {
                DUE.due("no TUBES, e away", none.check(sign * e, e), 0);
                DUE.due("no TUBES, more away", none.check(sign * (e + 1), e), 1);
                DUE.due("one TUBE, e away", one.check(100000 + sign * e, e), 0);
                DUE.due("ten TUBES, e away", ten.check(1000000 + sign * e, e), 0);
            }
            DUE.due("one TUBE at its end, more away", one.check(100000 + e + 1, e), 1);
            DUE.due("ten TUBES at their end, more away", ten.check(1000000 + e + 1, e), 1);
            DUE.due("ten TUBES, the load farthest away", ten.check(-2000000, e), 1);
        }
    }

    private static void checkOneOrSeveral() {
        DUE.says(34, "1: else, and no one TUBE with another PRESSURE would make it so; 2: several would; 10 + k: TUBE k alone.");
        for (int k = 0; k < 10; k++) {
            WindHall x = new WindHall();
            for (int n = 0; n < 10; n++) {
                x.tube(n == k ? 7 : 10);
                x.press(n, false, 0);
            }
            DUE.due("TUBE " + k + " alone", x.check(7, 0), 10 + k);
            DUE.due("TUBE " + k + " alone, below", x.check(-21, 0), 10 + k);
            DUE.due("several", x.check(70, 0), 2);
            DUE.due("the nine others", x.check(20, 0), 2);
            DUE.due("none", x.check(3, 0), 1);
            DUE.due("TUBE " + k + " by e", x.check(5, 2), 10 + k);
            DUE.due("TUBE " + k + " by e, the others not", x.check(8, 1), 10 + k);
            DUE.due("several by e", x.check(8, 2), 2);
        }
        WindHall two = hallOf(10, 0, 10, 0);
        DUE.due("two of two", two.check(10, 0), 2);
        WindHall one = hallOf(10, 0);
        DUE.due("one of one", one.check(10, 0), 10);
        DUE.due("none of one", one.check(9, 0), 1);
        DUE.due("none of one, by less than e", one.check(6, 3), 1);
        DUE.due("one of one, by e", one.check(6, 4), 10);
        DUE.due("without it, at e", one.check(4, 4), 0);
        DUE.due("nothing changed", one.force(), 0);
    }

    private static void checkAtPressureEnds() {
        DUE.says(34, "with another PRESSURE");
        for (int area : new int[] {1, 3, 99, 100}) {
            for (int sign = -1; sign <= 1; sign += 2) {
                WindHall x = hallOf(area, 0, 1, sign * 1000);
                int far = sign * (1000 * area + 1000);
                DUE.due("to the end", x.check(far, 0), 10);
                DUE.due("one too far", x.check(far + sign, 0), 1);
                DUE.due("too far, but by e", x.check(far + 7 * sign, 7), 10);
                DUE.due("too far by e and 1", x.check(far + 8 * sign, 7), 1);
                DUE.due("too far, but by the greatest e", x.check(far + 100000 * sign, 100000), 10);
                DUE.due("too far by the greatest e and 1", x.check(far + 100001 * sign, 100000), 1);
            }
        }
    }

    private static void fillNextToLoad() {
        DUE.says(35, "so that the sum is next to a load (the less one of two)");
        for (int area = 1; area <= 100; area++) {
            WindHall x = hallOf(3, 10);
            x.tube(area);
            int half = area / 2;
            for (int p : new int[] {-1000, -999, -3, -1, 0, 1, 2, 999}) {
                int at = 30 + area * p;
                DUE.due("AREA " + area + " at " + p, x.fill(at), p);
                // Half of an even AREA is as near to both; half of an odd one is nearer to the less.
                DUE.due("AREA " + area + " half above " + p, x.fill(at + half), p);
                if (area > 1) {
                    DUE.due("AREA " + area + " above half above " + p, x.fill(at + half + 1), p + 1);
                }
            }
        }
    }

    private static void fillAtPressureEnds() {
        DUE.says(35, "NONE: it would not be -1000 to 1000.");
        for (int area : new int[] {1, 2, 3, 99, 100}) {
            WindHall x = new WindHall();
            x.tube(area);
            int half = area / 2;
            // One less than half of an even AREA is the last that is nearer to the greater of two.
            int below = (area - 1) / 2;
            DUE.due("AREA " + area + ", 1000", x.fill(1000 * area), 1000);
            DUE.due("AREA " + area + ", the last next to 1000", x.fill(1000 * area + half), 1000);
            DUE.due("AREA " + area + ", next to 1001", x.fill(1000 * area + half + 1), NONE);
            DUE.due("AREA " + area + ", -1000", x.fill(-1000 * area), -1000);
            DUE.due("AREA " + area + ", the last next to -1000", x.fill(-1000 * area - below), -1000);
            DUE.due("AREA " + area + ", next to -1001", x.fill(-1000 * area - below - 1), NONE);
            DUE.due("AREA " + area + ", the greatest load", x.fill(2000000), NONE);
            DUE.due("AREA " + area + ", the least load", x.fill(-2000000), NONE);
            DUE.due("it is lost still", x.count(5), 1);
        }
    }

    private static void fillRefused() {
        DUE.says(35, "BAD; STATE: not just one is LOST");
        WindHall x = new WindHall();
        for (int tubes = 0; tubes <= 10; tubes++) {
            DUE.due(tubes + " are lost", x.fill(0), tubes == 1 ? 0 : STATE);
            DUE.due("load 2000001", x.fill(2000001), BAD);
            DUE.due("load -2000001", x.fill(-2000001), BAD);
            DUE.due("load 2000000", x.fill(2000000), tubes == 1 ? NONE : STATE);
            DUE.due("load -2000000", x.fill(-2000000), tubes == 1 ? NONE : STATE);
            x.tube(tubes + 1);
        }
        for (int k = 0; k < 10; k++) {
            DUE.due(10 - k + " are lost", x.fill(0), k == 9 ? 0 : STATE);
            x.press(k, false, 0);
        }
        DUE.due("none is lost", x.fill(0), STATE);
        for (int k = 0; k < 10; k++) {
            x.press(k, true, 0);
            DUE.due("TUBE " + k + " of AREA " + (k + 1), x.fill(5 * (k + 1)), 5);
            x.press(k, false, 0);
        }
    }

    private static void fillAsAnswers() {
        DUE.says(35, "(It may be -1, -2, -4, too.)");
        WindHall x = hallOf(1, 50);
        x.tube(20);
        for (int p = -5; p <= 5; p++) {
            DUE.due("PRESSURE " + p, x.fill(50 + 20 * p), p);
        }
    }

    private static void counts() {
        DUE.says(36, "How many: 0 POINTS, 1 CORRECTIONS, 2 PLACES, 3 of these done, 4 TUBES, 5 LOST ones. BAD.");
        WindHall x = new WindHall();
        int[] most = {12, 10, 9, 9, 10, 10};
        for (int n = 0; n <= 13; n++) {
            for (int what = 0; what < 6; what++) {
                DUE.due("count " + what, x.count(what), Math.min(n, most[what]));
            }
            x.point(0, 0, 0, 0, 0, 0);
            x.correct(0, 0, 0, 0);
            x.place(0, 0);
            x.done(n, true);
            x.tube(1);
        }
        for (int what : new int[] {-1, 6, MIN, MAX}) {
            DUE.due("count " + what, x.count(what), BAD);
        }
        x.forget();
        x.drop();
        x.done(8, false);
        x.press(9, false, 0);
        int[] then = {0, 9, 9, 8, 10, 9};
        for (int what = 0; what < 6; what++) {
            DUE.due("count " + what + " then", x.count(what), then[what]);
        }
    }
}
