/** Promises 30 to 32. */
public final class SheetsTest {
    private static final Due DUE = new Due("SheetsTest");

    public static void main(String[] args) {
        making();
        makingNewAgain();
        laying();
        lowestBits();
        scanning();
        scanFaults();
        scanWithoutTubes();
        DUE.end();
    }

    private static void making() {
        WindHall x = new WindHall();
        for (int k = 0; k < 4; k++) {
            for (int lane = 0; lane < 3; lane++) {
                DUE.due(30, "sheet", x.sheet(k, lane, 60), 1);
                DUE.due(30, "sheet of no cells", x.sheet(k, lane, 0), 1);
                DUE.due(30, "n below 0", x.sheet(k, lane, -1), -14);
                DUE.due(30, "n far below 0", x.sheet(k, lane, Integer.MIN_VALUE), -14);
                DUE.due(30, "n above 60", x.sheet(k, lane, 61), WindHall.BAD);
            }
        }
        int[][] wrong = {{-1, 0, 1}, {4, 0, 1}, {0, -1, 1}, {0, 3, 1}, {0, 0, Integer.MAX_VALUE},
            {4, 0, -1}, {-1, 0, -1}, {0, 3, -1}, {0, -1, -1}};
        for (int[] w : wrong) {
            DUE.due(30, "sheet as not told", x.sheet(w[0], w[1], w[2]), WindHall.BAD);
        }
    }

    private static void makingNewAgain() {
        WindHall x = new WindHall();
        x.tube(1);
        x.sheet(1, 2, 3);
        x.lay(1, 0, 88);
        x.lay(1, 2, 77);
        DUE.due(30, "a refused sheet", x.sheet(1, 0, -1), -14);
        DUE.due(30, "a refused sheet", x.sheet(1, 0, 61), WindHall.BAD);
        DUE.due(32, "it stands as it was", x.scan(1, 2, 2), 0);
        DUE.due(33, "force", x.force(), 77);
        DUE.due(30, "a new row of the same", x.sheet(1, 2, 3), 1);
        DUE.due(32, "scan", x.scan(1, 2, 2), 0);
        DUE.due(33, "cells are 0", x.force(), 0);
        DUE.due(32, "scan", x.scan(1, 2, 0), 0);
        DUE.due(33, "the first one too", x.force(), 0);
        DUE.due(30, "a shorter row", x.sheet(1, 2, 2), 1);
        DUE.due(31, "lay behind it", x.lay(1, 2, 1), -12);
        DUE.due(32, "scan behind it", x.scan(1, 2, 2), -12);
        DUE.due(31, "another sheet is nothing still", x.lay(0, 0, 1), -11);
    }

    private static void laying() {
        WindHall x = new WindHall();
        DUE.due(31, "lay on nothing", x.lay(0, 0, 1), -11);
        DUE.due(31, "NULL ahead of INDEX", x.lay(0, -1, 1), -11);
        DUE.due(31, "lay -1", x.lay(-1, 0, 1), WindHall.BAD);
        DUE.due(31, "lay 4", x.lay(4, 0, 1), WindHall.BAD);
        for (int n : new int[] {0, 1, 60}) {
            x.sheet(3, 0, n);
            for (int i : new int[] {-1, n, n + 1, Integer.MAX_VALUE, Integer.MIN_VALUE}) {
                DUE.due(31, "lay outside " + n, x.lay(3, i, 1), -12);
            }
            for (int i = 0; i < n; i++) {
                DUE.due(31, "lay inside " + n, x.lay(3, i, 1), 1);
            }
        }
    }

    private static void dueCell(int lane, int v, int want) {
        WindHall x = new WindHall();
        x.tube(1);
        x.sheet(0, lane, 1);
        DUE.due(31, "lay " + v, x.lay(0, 0, v), 1);
        boolean isPressure = want >= -1000 && want <= 1000;
        DUE.due(32, "scan of " + v + " in lane " + lane, x.scan(0, lane, 0), isPressure ? 0 : 1);
        DUE.due(33, "force of " + v + " in lane " + lane, x.force(), isPressure ? want : 0);
    }

    private static void lowestBits() {
        int[] values = {0, 1, -1, 127, 128, 255, 256, -128, -129, 1000, 1001, -1000, -1001, 32767, 32768, 65535, 65536,
            -32768, -32769, 66536, 65536 - 1000, 65536 - 1001, Integer.MAX_VALUE, Integer.MIN_VALUE, 0x7fff00ff};
        for (int v : values) {
            dueCell(0, v, (byte) v);
            dueCell(1, v, (short) v);
            dueCell(2, v, v);
        }
    }

    private static void scanning() {
        WindHall x = new WindHall();
        x.tube(1);
        x.tube(10);
        x.tube(100);
        x.sheet(2, 1, 5);
        int[] cells = {1000, -1000, 1001, -1001, 3};
        for (int i = 0; i < 5; i++) {
            x.lay(2, i, cells[i]);
        }
        DUE.due(32, "scan from 0", x.scan(2, 1, 0), 1);
        DUE.due(33, "force", x.force(), 1000 - 10000);
        DUE.due(32, "scan from 1", x.scan(2, 1, 1), 2);
        DUE.due(33, "force", x.force(), -1000);
        DUE.due(32, "scan from 2", x.scan(2, 1, 2), 2);
        DUE.due(33, "force", x.force(), 300);
        DUE.due(36, "count 5", x.count(5), 2);
        DUE.due(32, "scan from 3", x.scan(2, 1, 3), -12);
        DUE.due(33, "none changed", x.force(), 300);
        DUE.due(36, "none changed", x.count(5), 2);
    }

    private static void scanFaults() {
        WindHall x = new WindHall();
        x.tube(1);
        x.tube(1);
        x.press(0, false, 5);
        x.sheet(0, 0, 2);
        x.sheet(1, 1, 2);
        x.sheet(2, 2, 2);
        for (int k = 0; k < 3; k++) {
            for (int lane = 0; lane < 3; lane++) {
                if (lane != k) {
                    DUE.due(32, "another lane", x.scan(k, lane, 0), -13);
                    DUE.due(32, "CAST ahead of INDEX", x.scan(k, lane, 9), -13);
                }
            }
            for (int f : new int[] {-1, 1, 2, 60, Integer.MAX_VALUE, Integer.MIN_VALUE}) {
                DUE.due(32, "outside", x.scan(k, k, f), -12);
            }
            DUE.due(32, "nothing", x.scan(3, k, -1), -11);
        }
        int[][] wrong = {{-1, 0}, {4, 0}, {0, -1}, {0, 3}, {3, 3}, {Integer.MIN_VALUE, Integer.MAX_VALUE}};
        for (int[] w : wrong) {
            DUE.due(32, "scan as not told", x.scan(w[0], w[1], 0), WindHall.BAD);
        }
        DUE.due(33, "none changed", x.force(), 5);
        DUE.due(36, "none changed", x.count(5), 1);
    }

    private static void scanWithoutTubes() {
        WindHall x = new WindHall();
        DUE.due(32, "nothing, without tubes", x.scan(0, 0, 0), -11);
        x.sheet(0, 0, 0);
        DUE.due(32, "another lane, without tubes", x.scan(0, 1, 0), -13);
        DUE.due(32, "no cell is used", x.scan(0, 0, 0), 0);
        DUE.due(32, "no cell is used", x.scan(0, 0, 99), 0);
        DUE.due(32, "no cell is used", x.scan(0, 0, -1), 0);
    }
}
