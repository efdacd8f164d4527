/** Promise 1, and promise 36 of an object as it is made. */
public final class NewObjectTest {
    private static final Due DUE = new Due("NewObjectTest");

    public static void main(String[] args) {
        theBalanceAtFirst(new WindHall());
        theRestAtFirst(new WindHall());
        rawAtFirst(new WindHall());
        settlingAtFirst();
        constants();
        objectsAreApart();
        DUE.end();
    }

    private static void theBalanceAtFirst(WindHall x) {
        for (int i = 0; i < 3; i++) {
            DUE.due(1, "reading at 50, 0, 0", x.reading(i, 50, 0, 0), i == 0 ? 50000 : 0);
            DUE.due(1, "reading at 0, 50, 0", x.reading(i, 0, 50, 0), i == 1 ? 50000 : 0);
            DUE.due(1, "reading at 0, 0, 50", x.reading(i, 0, 0, 50), i == 2 ? 50000 : 0);
            DUE.due(1, "reading at 7, 11, 13", x.reading(i, 7, 11, 13), new int[] {7000, 11000, 13000}[i]);
            DUE.due(9, "miss without points", x.miss(i), WindHall.NONE);
        }
        for (int what = -1; what <= 6; what++) {
            DUE.due(6, "found before", x.found(what), 0);
        }
    }

    private static void theRestAtFirst(WindHall x) {
        for (int what = 0; what <= 5; what++) {
            DUE.due(1, "count " + what, x.count(what), 0);
        }
        DUE.due(36, "count -1", x.count(-1), WindHall.BAD);
        DUE.due(36, "count 6", x.count(6), WindHall.BAD);
        DUE.due(10, "forget", x.forget(), 0);
        DUE.due(14, "drop", x.drop(), WindHall.NONE);
        for (int i = 0; i < 3; i++) {
            DUE.due(16, "corrected", x.corrected(i, 0), 0);
        }
        DUE.due(22, "least", x.least(), 0);
        DUE.due(23, "order 0", x.order(0), WindHall.NONE);
        DUE.due(33, "force", x.force(), 0);
        for (int k = 0; k < 4; k++) {
            DUE.due(1, "lay on nothing", x.lay(k, 0, 0), -11);
            DUE.due(1, "scan of nothing", x.scan(k, 0, 0), -11);
        }
    }

    private static void rawAtFirst(WindHall x) {
        x.correct(1, 1000, 2000, 3000);
        x.correct(4, 1000, 7, 0);
        DUE.due(16, "at TIME 0", x.corrected(0, 1), -1000);
        DUE.due(16, "at TIME 0", x.corrected(2, 1), -3000);
        DUE.due(16, "at ANGLE 0", x.corrected(0, 2), -2000);
        DUE.due(16, "at ANGLE 0", x.corrected(1, 2), -2000);
        DUE.due(16, "at ANGLE 0", x.corrected(2, 2), -3007);
    }

    private static void settlingAtFirst() {
        WindHall x = new WindHall();
        DUE.due(1, "settled 0", x.settled(0), 0);
        DUE.due(1, "settled 1", x.settled(1), 0);
        DUE.due(1, "settled 2", x.settled(2), WindHall.NONE);
        DUE.due(1, "settled 3", x.settled(3), 0);
        DUE.due(1, "anew", x.anew(), 0);
        for (int k = 0; k < 3; k++) {
            DUE.due(1, "come", x.come(1000000, 5 * k, -1000000), 0);
        }
        DUE.due(1, "the fourth at D 10", x.come(999990, 5, -1000000), 1);
        x = new WindHall();
        for (int k = 1; k <= 20; k++) {
            DUE.due(1, "come beyond D 10", x.come(11 * (k % 2), 0, 0), k < 20 ? 0 : 3);
        }
        x = new WindHall();
        DUE.due(1, "beyond LIMIT", x.come(0, 0, 1000001), 2);
    }

    private static void constants() {
        DUE.due(1, "BAD", WindHall.BAD, -1);
        DUE.due(1, "STATE", WindHall.STATE, -2);
        DUE.due(1, "FULL", WindHall.FULL, -3);
        DUE.due(1, "NONE", WindHall.NONE, -4);
    }

    private static void objectsAreApart() {
        WindHall one = new WindHall();
        WindHall two = new WindHall();
        one.first(0, 0, 77);
        one.place(3, 3);
        one.tube(9);
        one.sheet(0, 0, 5);
        DUE.due(1, "another object's reading", two.reading(0, 1, 0, 0), 1000);
        DUE.due(1, "another object's places", two.count(2), 0);
        DUE.due(1, "another object's tubes", two.count(4), 0);
        DUE.due(1, "another object's sheet", two.lay(0, 0, 0), -11);
    }
}
