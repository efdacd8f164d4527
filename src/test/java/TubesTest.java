/** Promises 28, 29 and 33 to 36. */
public final class TubesTest {
    private static final Due DUE = new Due("TubesTest");

    public static void main(String[] args) {
        tubes();
        pressing();
        forces();
        checks();
        checkAtTheEnds();
        checkRefused();
        filling();
        fillRefused();
        DUE.end();
    }

    private static WindHall hallOf(int... areasAndPressures) {
        WindHall x = new WindHall();
        for (int k = 0; 2 * k < areasAndPressures.length; k++) {
            x.tube(areasAndPressures[2 * k]);
            x.press(k, false, areasAndPressures[2 * k + 1]);
        }
        return x;
    }

    private static void tubes() {
        WindHall x = new WindHall();
        for (int n = 0; n < 10; n++) {
            DUE.due(28, "tube", x.tube(n == 0 ? 100 : n), n);
            DUE.due(36, "count 4", x.count(4), n + 1);
            DUE.due(36, "count 5: a new one is lost", x.count(5), n + 1);
        }
        for (int area : new int[] {0, -1, 101, Integer.MAX_VALUE, Integer.MIN_VALUE}) {
            DUE.due(28, "BAD ahead of FULL", x.tube(area), WindHall.BAD);
            DUE.due(28, "tube as not told", new WindHall().tube(area), WindHall.BAD);
        }
        DUE.due(28, "tube 11", x.tube(1), WindHall.FULL);
        DUE.due(36, "count 4", x.count(4), 10);
    }

    private static void pressing() {
        WindHall x = new WindHall();
        DUE.due(29, "press of none", x.press(0, false, 0), WindHall.BAD);
        x.tube(3);
        x.tube(5);
        DUE.due(29, "press", x.press(0, false, 1000), 1);
        DUE.due(29, "press", x.press(1, false, -1000), 1);
        DUE.due(36, "count 5", x.count(5), 0);
        DUE.due(33, "force", x.force(), -2000);
        int[][] wrong = {{-1, 0}, {2, 0}, {0, 1001}, {0, -1001}, {0, Integer.MIN_VALUE}};
        for (int[] w : wrong) {
            DUE.due(29, "press as not told", x.press(w[0], false, w[1]), WindHall.BAD);
        }
        DUE.due(29, "lost of none", x.press(2, true, 0), WindHall.BAD);
        DUE.due(33, "what is refused changes nothing", x.force(), -2000);
        DUE.due(29, "lost", x.press(1, true, 7), 1);
        DUE.due(36, "count 5", x.count(5), 1);
        DUE.due(33, "the lost one is not in the sum", x.force(), 3000);
        DUE.due(29, "lost again, with no pressure told", x.press(1, true, 5000), 1);
        DUE.due(29, "found again", x.press(1, false, 1), 1);
        DUE.due(33, "force", x.force(), 3005);
    }

    private static void forces() {
        WindHall x = new WindHall();
        DUE.due(33, "force of none", x.force(), 0);
        for (int k = 0; k < 10; k++) {
            x.tube(100);
            DUE.due(33, "force with a lost one", x.force(), -100000 * k);
            x.press(k, false, -1000);
        }
        DUE.due(33, "the least force", x.force(), -1000000);
    }

    private static void checks() {
        WindHall x = hallOf(3, 10, 5, 2);
        DUE.due(34, "the load itself", x.check(40, 0), 0);
        DUE.due(34, "at e", x.check(45, 5), 0);
        DUE.due(34, "at e below", x.check(35, 5), 0);
        DUE.due(34, "tube 0 alone", x.check(43, 0), 10);
        DUE.due(34, "tube 1 alone", x.check(45, 0), 11);
        DUE.due(34, "several", x.check(55, 0), 2);
        DUE.due(34, "none", x.check(41, 0), 1);
        DUE.due(34, "several by e", x.check(44, 1), 2);
        DUE.due(34, "nothing is changed", x.force(), 40);
        x = new WindHall();
        DUE.due(34, "no tubes", x.check(7, 7), 0);
        DUE.due(34, "no tubes, away", x.check(8, 7), 1);
        x = hallOf(1, 0, 1, 0, 100, 0);
        DUE.due(34, "the third of three", x.check(100000, 98999), 12);
        DUE.due(34, "all three", x.check(100000, 99000), 2);
        WindHall ten = new WindHall();
        for (int k = 0; k < 10; k++) {
            ten.tube(k == 9 ? 7 : 2);
            ten.press(k, false, 0);
        }
        DUE.due(34, "the last of ten", ten.check(7, 0), 19);
        DUE.due(34, "nine of ten", ten.check(2, 0), 2);
        DUE.due(34, "the greatest of the last", ten.check(7000, 0), 19);
    }

    private static void checkAtTheEnds() {
        WindHall x = hallOf(7, 990, 100, 0);
        DUE.due(34, "up to pressure 1000", x.check(7000, 0), 10);
        DUE.due(34, "not beyond it", x.check(7007, 0), 1);
        DUE.due(34, "beyond it by e", x.check(7007, 7), 10);
        DUE.due(34, "down to pressure -1000", x.check(-7000, 0), 10);
        DUE.due(34, "not below it", x.check(-7007, 0), 1);
        DUE.due(34, "not below it, but by e", x.check(-7007, 7), 10);
        DUE.due(34, "the greatest of tube 1", x.check(106930, 0), 11);
        DUE.due(34, "the greatest by e", x.check(206930, 100000), 11);
        DUE.due(34, "too far by 1", x.check(206931, 100000), 1);
        DUE.due(34, "the least of tube 1", x.check(-93070, 0), 11);
        DUE.due(34, "the least by e", x.check(-193070, 100000), 11);
        DUE.due(34, "too far by 1", x.check(-193071, 100000), 1);
    }

    private static void checkRefused() {
        WindHall x = hallOf(3, 10);
        DUE.due(34, "the greatest load", x.check(2000000, 0), 1);
        DUE.due(34, "the least load", x.check(-2000000, 100000), 1);
        x.tube(5);
        DUE.due(34, "one is lost", x.check(0, 0), WindHall.STATE);
        int[][] wrong = {{0, -1}, {0, 100001}, {2000001, 0}, {-2000001, 0}, {Integer.MIN_VALUE, 0}, {0, Integer.MIN_VALUE}};
        for (int[] w : wrong) {
            DUE.due(34, "check as not told, ahead of STATE", x.check(w[0], w[1]), WindHall.BAD);
        }
        x.press(1, false, 0);
        for (int[] w : wrong) {
            DUE.due(34, "check as not told", x.check(w[0], w[1]), WindHall.BAD);
        }
    }

    private static void filling() {
        WindHall x = hallOf(3, 10);
        x.tube(4);
        int[][] cases = {{30, 0}, {31, 0}, {32, 0}, {33, 1}, {34, 1}, {36, 1}, {37, 2}, {28, -1}, {29, 0}, {27, -1},
            {24, -2}, {22, -2}, {14, -4}, {4030, 1000}, {4031, 1000}, {4032, 1000}, {4033, WindHall.NONE},
            {-3970, -1000}, {-3971, -1000}, {-3972, WindHall.NONE}, {2000000, WindHall.NONE}, {-2000000, WindHall.NONE}};
        for (int[] c : cases) {
            DUE.due(35, "fill(" + c[0] + ")", x.fill(c[0]), c[1]);
        }
        DUE.due(35, "it stays lost", x.count(5), 1);
        x = hallOf(3, 10);
        x.tube(5);
        int[][] odd = {{32, 0}, {33, 1}, {28, 0}, {27, -1}, {5030, 1000}, {5032, 1000}, {5033, WindHall.NONE}};
        for (int[] c : odd) {
            DUE.due(35, "fill of area 5 (" + c[0] + ")", x.fill(c[0]), c[1]);
        }
        x.press(1, false, 3);
        x.press(0, true, 0);
        DUE.due(35, "the other one is lost", x.fill(21), 2);
    }

    private static void fillRefused() {
        WindHall x = new WindHall();
        DUE.due(35, "no tubes", x.fill(0), WindHall.STATE);
        x.tube(3);
        DUE.due(35, "one", x.fill(0), 0);
        x.tube(3);
        DUE.due(35, "two are lost", x.fill(0), WindHall.STATE);
        for (int load : new int[] {2000001, -2000001, Integer.MAX_VALUE, Integer.MIN_VALUE}) {
            DUE.due(35, "fill as not told, ahead of STATE", x.fill(load), WindHall.BAD);
        }
        x.press(0, false, 0);
        x.press(1, false, 0);
        DUE.due(35, "none is lost", x.fill(0), WindHall.STATE);
    }
}
