/** Promises 11 to 18. */
public final class CorrectionsTest {
    private static final Due DUE = new Due("CorrectionsTest");

    public static void main(String[] args) {
        numbersAndRoom();
        wrongNumbers();
        zeroDriftProp();
        wall();
        weight();
        turning();
        swapping();
        dropping();
        raws();
        correctedOfNone();
        touching();
        minding();
        DUE.end();
    }

    private static void dueRow(WindHall x, int k, long r0, long r1, long r2) {
        DUE.due(16, "corrected(0, " + k + ")", x.corrected(0, k), r0);
        DUE.due(16, "corrected(1, " + k + ")", x.corrected(1, k), r1);
        DUE.due(16, "corrected(2, " + k + ")", x.corrected(2, k), r2);
    }

    private static void numbersAndRoom() {
        WindHall x = new WindHall();
        for (int n = 0; n < 10; n++) {
            DUE.due(11, "correct", x.correct(n % 5, n % 5 == 3 ? 300 : 10000, -10000, 10000), n);
            DUE.due(36, "count 1", x.count(1), n + 1);
        }
        DUE.due(11, "BAD ahead of FULL", x.correct(0, 10001, 0, 0), WindHall.BAD);
        DUE.due(11, "correct 11", x.correct(0, 0, 0, 0), WindHall.FULL);
        DUE.due(36, "count 1", x.count(1), 10);
        DUE.due(14, "drop", x.drop(), 9);
        DUE.due(11, "correct after drop", x.correct(0, 0, 0, 0), 9);
    }

    private static void wrongNumbers() {
        WindHall x = new WindHall();
        int[][] wrong = {{-1, 0, 0, 0}, {5, 0, 0, 0}, {3, 301, 0, 0}, {3, -301, 0, 0}, {Integer.MIN_VALUE, 0, 0, 0}};
        for (int[] w : wrong) {
            DUE.due(11, "correct as not told", x.correct(w[0], w[1], w[2], w[3]), WindHall.BAD);
        }
        for (int kind : new int[] {0, 1, 2, 4}) {
            for (int far : new int[] {10001, -10001, Integer.MAX_VALUE, Integer.MIN_VALUE}) {
                DUE.due(11, "u", x.correct(kind, far, 0, 0), WindHall.BAD);
                DUE.due(11, "v", x.correct(kind, 0, far, 0), WindHall.BAD);
                DUE.due(11, "w", x.correct(kind, 0, 0, far), WindHall.BAD);
            }
        }
        DUE.due(36, "count 1", x.count(1), 0);
        DUE.due(11, "v, w of WALL are not looked at", x.correct(3, -300, 10001, -2000000000), 0);
    }

    private static void zeroDriftProp() {
        WindHall x = new WindHall();
        x.correct(0, 5, -6, 7);
        x.correct(1, 7, -7, 1);
        x.correct(2, 10, -20, 30);
        x.raw(100, 200, 300, 0, 0);
        dueRow(x, 0, 100, 200, 300);
        dueRow(x, 1, 95, 206, 293);
        dueRow(x, 2, 88, 213, 292);
        dueRow(x, 3, 68, 253, 232);
        x.raw(100, 200, 300, 1000, 0);
        dueRow(x, 2, 81, 220, 291);
        // 7 times 500 by 1000 is 3.5, down to 3; of -7 it is -3.5, down to -4.
        x.raw(100, 200, 300, 500, 0);
        dueRow(x, 2, 85, 217, 292);
        // of 1 at TIME 999 it is 0.
        x.raw(100, 200, 300, 999, 0);
        dueRow(x, 2, 82, 220, 292);
    }

    private static void wall() {
        WindHall x = new WindHall();
        x.correct(3, 33, 5, 5);
        x.raw(100, 1, -1, 5, 5);
        dueRow(x, 1, 33, 0, -1);
        x = new WindHall();
        x.correct(3, -33, 0, 0);
        x.raw(1, -1, -100, 0, 0);
        dueRow(x, 1, -1, 0, 33);
        x = new WindHall();
        for (int n = 0; n < 10; n++) {
            x.correct(3, n == 0 ? -300 : 300, 0, 0);
        }
        x.raw(2000000, -2000000, 1, 0, 0);
        dueRow(x, 10, -118098000000L, 118098000000L, -59049);
    }

    private static void weight() {
        int[] cos = {1000, 966, 866, 707, 500, 259, 0, -259, -500, -707, -866, -966,
            -1000, -966, -866, -707, -500, -259, 0, 259, 500, 707, 866, 966};
        int[] sin = {0, 259, 500, 707, 866, 966, 1000, 966, 866, 707, 500, 259,
            0, -259, -500, -707, -866, -966, -1000, -966, -866, -707, -500, -259};
        WindHall x = new WindHall();
        x.correct(4, 1000, 5, 9999);
        x.correct(4, -1, -8, 9999);
        for (int angle = 0; angle < 24; angle++) {
            x.raw(10, 20, 30, 700, angle);
            dueRow(x, 1, 10 - cos[angle], 20 - sin[angle], 25);
            long down0 = Math.floorDiv(-cos[angle], 1000);
            long down1 = Math.floorDiv(-sin[angle], 1000);
            dueRow(x, 2, 10 - cos[angle] - down0, 20 - sin[angle] - down1, 33);
        }
    }

    private static void turning() {
        WindHall x = new WindHall();
        x.correct(0, 1, 2, 3);
        x.correct(0, 10, 20, 30);
        DUE.due(12, "it is on at first", x.turn(0, true), 1);
        DUE.due(12, "off", x.turn(0, false), 1);
        DUE.due(12, "off again", x.turn(0, false), 0);
        dueRow(x, 1, 0, 0, 0);
        dueRow(x, 2, -10, -20, -30);
        DUE.due(12, "on", x.turn(0, true), 0);
        dueRow(x, 2, -11, -22, -33);
        DUE.due(12, "turn -1", x.turn(-1, true), WindHall.BAD);
        DUE.due(12, "turn 2", x.turn(2, true), WindHall.BAD);
        x.turn(1, false);
        x.drop();
        x.correct(0, 10, 20, 30);
        DUE.due(12, "a new one is on", x.turn(1, true), 1);
    }

    private static void swapping() {
        WindHall x = new WindHall();
        DUE.due(13, "swap of none", x.swap(0), WindHall.BAD);
        x.correct(0, 1, 2, 3);
        DUE.due(13, "swap of one", x.swap(0), WindHall.BAD);
        x.correct(3, 200, 0, 0);
        x.correct(2, 4, 4, 4);
        x.turn(0, false);
        DUE.due(13, "swap", x.swap(0), 1);
        x.raw(50, 60, 70, 0, 0);
        dueRow(x, 1, 100, 120, 140);
        dueRow(x, 2, 100, 120, 140);
        DUE.due(12, "the off one went along", x.turn(1, true), 0);
        dueRow(x, 2, 99, 118, 137);
        DUE.due(13, "swap 1", x.swap(1), 1);
        dueRow(x, 2, 92, 112, 132);
        dueRow(x, 3, 91, 110, 129);
        for (int k : new int[] {-1, 2, 3, Integer.MAX_VALUE, Integer.MIN_VALUE}) {
            DUE.due(13, "swap as not told", x.swap(k), WindHall.BAD);
        }
    }

    private static void dropping() {
        WindHall x = new WindHall();
        x.correct(0, 1, 2, 3);
        x.correct(2, 4, 4, 4);
        DUE.due(14, "drop", x.drop(), 1);
        DUE.due(36, "count 1", x.count(1), 1);
        dueRow(x, 1, -1, -2, -3);
        dueRow(x, 2, 0, 0, 0);
        DUE.due(14, "drop", x.drop(), 0);
        DUE.due(14, "drop of none", x.drop(), WindHall.NONE);
        DUE.due(11, "correct", x.correct(0, 9, 9, 9), 0);
        dueRow(x, 1, -9, -9, -9);
    }

    private static void raws() {
        WindHall x = new WindHall();
        DUE.due(15, "raw", x.raw(2000000, -2000000, 2000000, 1000, 23), 1);
        dueRow(x, 0, 2000000, -2000000, 2000000);
        int[][] wrong = {{2000001, 0, 0, 0, 0}, {-2000001, 0, 0, 0, 0}, {0, 2000001, 0, 0, 0}, {0, -2000001, 0, 0, 0},
            {0, 0, 2000001, 0, 0}, {0, 0, -2000001, 0, 0}, {0, 0, 0, -1, 0}, {0, 0, 0, 1001, 0},
            {0, 0, 0, 0, -1}, {0, 0, 0, 0, 24}};
        for (int[] w : wrong) {
            DUE.due(15, "raw as not told", x.raw(w[0], w[1], w[2], w[3], w[4]), WindHall.BAD);
        }
        dueRow(x, 0, 2000000, -2000000, 2000000);
        x.correct(4, 1000, 0, 0);
        dueRow(x, 1, 2000000 - 966, -2000000 + 259, 2000000);
        DUE.due(15, "raw", x.raw(1, 2, 3, 0, 0), 1);
        dueRow(x, 1, 1 - 1000, 2, 3);
    }

    private static void correctedOfNone() {
        WindHall x = new WindHall();
        x.raw(5, 6, 7, 8, 9);
        x.correct(0, 1, 1, 1);
        int[][] none = {{-1, 0}, {3, 0}, {4, 0}, {0, -1}, {0, 2}, {2, Integer.MAX_VALUE}, {2, Integer.MIN_VALUE}};
        for (int[] n : none) {
            DUE.due(16, "corrected of none such", x.corrected(n[0], n[1]), 0);
        }
        dueRow(x, 1, 4, 5, 6);
        dueRow(x, 1, 4, 5, 6);
    }

    private static void touching() {
        WindHall x = new WindHall();
        x.raw(100, 0, -100, 0, 6);
        x.correct(3, 100, 0, 0);
        x.correct(0, 0, 0, 1);
        x.correct(3, 0, 0, 0);
        x.correct(3, 77, 0, 0);
        x.correct(4, 0, 0, 10000);
        x.correct(4, 5, 0, 0);
        int[] want = {WindHall.NONE, 2, 3, WindHall.NONE, WindHall.NONE, 6};
        for (int on = 0; on < 2; on++) {
            for (int c = 0; c < 6; c++) {
                DUE.due(17, "touches " + c, x.touches(c), want[c]);
                DUE.due(17, "touching turns nothing", x.turn(c, on == 1), 1);
                DUE.due(17, "touches when " + on + ": " + c, x.touches(c), want[c]);
                x.turn(c, true);
            }
        }
        for (int c : new int[] {-1, 6, Integer.MAX_VALUE}) {
            DUE.due(17, "touches as not told", x.touches(c), WindHall.BAD);
        }
    }

    private static void minding() {
        WindHall x = new WindHall();
        DUE.due(18, "minds of none", x.minds(0), WindHall.BAD);
        x.raw(100, 0, -100, 0, 6);
        x.correct(0, 50, 0, 0);
        DUE.due(18, "minds of one", x.minds(0), WindHall.BAD);
        x.correct(3, 200, 0, 0);
        x.correct(2, 0, 0, 50);
        x.correct(3, 100, 0, 0);
        x.correct(1, 0, 0, 50);
        int[] want = {1, 1, 0, 0};
        for (int c = 0; c < 4; c++) {
            DUE.due(18, "minds " + c, x.minds(c), want[c]);
            DUE.due(18, "minds again " + c, x.minds(c), want[c]);
        }
        x.turn(1, false);
        DUE.due(18, "an off one is not minded", x.minds(0), 0);
        DUE.due(18, "an off one is not minded", x.minds(1), 0);
        for (int c : new int[] {-1, 4, 5, Integer.MAX_VALUE, Integer.MIN_VALUE}) {
            DUE.due(18, "minds as not told", x.minds(c), WindHall.BAD);
        }
    }
}
