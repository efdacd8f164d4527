import java.util.function.ToLongFunction;

/** STATE, FULL, NONE and faults: the first that fits is answered, and what is refused changes nothing. */
public final class RefusedTest {
    private static final Due DUE = new Due("RefusedTest");
    private static final int BAD = WindHall.BAD, STATE = WindHall.STATE, FULL = WindHall.FULL, NONE = WindHall.NONE;
    private static final int NULL = -11, INDEX = -12, CAST = -13, SIZE = -14;

    public static void main(String[] args) {
        backOfNoOnlyOne();
        full();
        noneThere();
        comeWhenItDoesNotWait();
        lostTubes();
        sizeBelowZero();
        layOnSheets();
        scanOfSheets();
        DUE.end();
    }

    private static void refused(State state, int promise, String call, long want, ToLongFunction<WindHall> ask) {
        Run x = state.make();
        DUE.due(promise, state + ": " + call, x.ask(ask), want);
        String change = Portrait.difference(Portrait.of(x, state), Portrait.of(state.make(), state));
        DUE.due(promise, state + ": " + call + " changed " + change, change.length(), 0);
    }

    private static void backOfNoOnlyOne() {
        refused(State.OVERLOADED, 5, "back, no x at all", STATE, h -> h.back(1, 2, 3, 9));
        refused(State.OVERLOADED, 5, "back, several x", STATE, h -> h.back(0, 0, 0, 9));
        refused(State.OVERLOADED, 5, "back by 50", STATE, h -> h.back(2000000, -2000000, 0, 50));
        refused(State.OVERLOADED, 5, "back, BAD ahead of STATE", BAD, h -> h.back(0, 0, 0, 51));
        refused(State.OVERLOADED, 5, "back, BAD ahead of STATE", BAD, h -> h.back(0, 0, 0, 0));
        refused(State.OVERLOADED, 5, "back, BAD ahead of STATE", BAD, h -> h.back(0, 0, 2000001, 1));
    }

    private static void full() {
        refused(State.FULL, 7, "point 13", FULL, h -> h.point(1, 2, 3, 4, 5, 6));
        refused(State.FULL, 7, "point, BAD ahead of FULL", BAD, h -> h.point(1, 2, 51, 4, 5, 6));
        refused(State.FULL, 11, "correct 11", FULL, h -> h.correct(3, 7, 8, 9));
        refused(State.FULL, 11, "correct, BAD ahead of FULL", BAD, h -> h.correct(5, 7, 8, 9));
        refused(State.FULL, 19, "place 10", FULL, h -> h.place(12, 5));
        refused(State.FULL, 19, "place, BAD ahead of FULL", BAD, h -> h.place(12, 10));
        refused(State.FULL, 28, "tube 11", FULL, h -> h.tube(50));
        refused(State.FULL, 28, "tube, BAD ahead of FULL", BAD, h -> h.tube(101));
    }

    private static void noneThere() {
        refused(State.NEW, 9, "miss without points", NONE, h -> h.miss(2));
        refused(State.NEW, 9, "miss, BAD ahead of NONE", BAD, h -> h.miss(3));
        refused(State.NEW, 14, "drop", NONE, h -> h.drop());
        refused(State.NEW, 23, "order 0 of none", NONE, h -> h.order(0));
        refused(State.OVERLOADED, 23, "order 0, all done", NONE, h -> h.order(0));
        refused(State.SOME, 23, "order 2 of two", NONE, h -> h.order(2));
        refused(State.FULL, 23, "order 7 of seven", NONE, h -> h.order(7));
        refused(State.SOME, 23, "order, BAD ahead of NONE", BAD, h -> h.order(-1));
        refused(State.NEW, 26, "the meter beyond", NONE, h -> h.settled(2));
        refused(State.FULL, 26, "the meter beyond, settled", NONE, h -> h.settled(2));
        refused(State.TIRED, 26, "the meter beyond, tired", NONE, h -> h.settled(2));
    }

    private static void comeWhenItDoesNotWait() {
        for (State state : new State[] {State.FULL, State.OVERLOADED, State.TIRED}) {
            refused(state, 25, "come", STATE, h -> h.come(0, 0, 0));
            refused(state, 25, "come beyond the limit", STATE, h -> h.come(0, 0, 2000000));
            refused(state, 25, "come, BAD ahead of STATE", BAD, h -> h.come(0, 0, 2000001));
        }
    }

    private static void lostTubes() {
        for (State state : new State[] {State.SOME, State.OVERLOADED, State.TIRED}) {
            refused(state, 34, "check with lost ones", STATE, h -> h.check(0, 100000));
            refused(state, 34, "check, BAD ahead of STATE", BAD, h -> h.check(0, 100001));
            refused(state, 34, "check, BAD ahead of STATE", BAD, h -> h.check(2000001, 0));
        }
        refused(State.NEW, 35, "fill of no tubes", STATE, h -> h.fill(0));
        refused(State.FULL, 35, "fill, none lost", STATE, h -> h.fill(0));
        refused(State.OVERLOADED, 35, "fill, two lost", STATE, h -> h.fill(0));
        refused(State.OVERLOADED, 35, "fill, STATE ahead of NONE", STATE, h -> h.fill(2000000));
        refused(State.OVERLOADED, 35, "fill, BAD ahead of STATE", BAD, h -> h.fill(2000001));
        // The one lost tube of this state has AREA 3: 3001 and 3002 are next to 1000 and 1001.
        refused(State.TIRED, 35, "fill, the last that is one", 1000, h -> h.fill(3001));
        refused(State.TIRED, 35, "fill, above 1000", NONE, h -> h.fill(3002));
        refused(State.TIRED, 35, "fill, the first that is one", -1000, h -> h.fill(-3001));
        refused(State.TIRED, 35, "fill, below -1000", NONE, h -> h.fill(-3002));
        refused(State.TIRED, 35, "fill, BAD ahead of NONE", BAD, h -> h.fill(-2000001));
    }

    private static void sizeBelowZero() {
        for (State state : State.values()) {
            for (int n = 0; n < 4; n++) {
                int k = n;
                refused(state, 30, "sheet of -1", SIZE, h -> h.sheet(k, k % 3, -1));
                refused(state, 30, "sheet of the least int", SIZE, h -> h.sheet(k, k % 3, Integer.MIN_VALUE));
            }
            refused(state, 30, "sheet, BAD k ahead of SIZE", BAD, h -> h.sheet(4, 0, -1));
            refused(state, 30, "sheet, BAD lane ahead of SIZE", BAD, h -> h.sheet(0, 3, -1));
        }
    }

    private static void layOnSheets() {
        for (int i : new int[] {0, -1, 60, Integer.MIN_VALUE, Integer.MAX_VALUE}) {
            refused(State.NEW, 31, "lay on nothing at " + i, NULL, h -> h.lay(0, i, 5));
            refused(State.SOME, 31, "lay on nothing at " + i, NULL, h -> h.lay(3, i, 5));
            refused(State.SOME, 31, "lay, BAD ahead of NULL", BAD, h -> h.lay(4, i, 5));
        }
        for (int i : new int[] {-1, 5, Integer.MIN_VALUE, Integer.MAX_VALUE}) {
            refused(State.SOME, 31, "lay on five cells at " + i, INDEX, h -> h.lay(1, i, 5));
            refused(State.SOME, 31, "lay, BAD ahead of INDEX", BAD, h -> h.lay(-1, i, 5));
        }
        refused(State.FULL, 31, "lay behind 60 cells", INDEX, h -> h.lay(2, 60, 5));
        refused(State.FULL, 31, "lay ahead of 60 cells", INDEX, h -> h.lay(2, -1, 5));
        refused(State.OVERLOADED, 31, "lay on no cells", INDEX, h -> h.lay(3, 0, 5));
        refused(State.TIRED, 31, "lay behind one cell", INDEX, h -> h.lay(0, 1, 5));
    }

    private static void scanOfSheets() {
        for (int f : new int[] {0, -1, 60, Integer.MIN_VALUE, Integer.MAX_VALUE}) {
            for (int n = 0; n < 3; n++) {
                int lane = n;
                refused(State.SOME, 32, "scan of nothing", NULL, h -> h.scan(3, lane, f));
                refused(State.SOME, 32, "scan as another lane", CAST, h -> h.scan(lane, (lane + 1) % 3, f));
                refused(State.SOME, 32, "scan as another lane", CAST, h -> h.scan(lane, (lane + 2) % 3, f));
                refused(State.SOME, 32, "scan, BAD k ahead of faults", BAD, h -> h.scan(4, lane, f));
                refused(State.SOME, 32, "scan, BAD lane ahead of faults", BAD, h -> h.scan(3, 3, f));
            }
        }
        for (int f : new int[] {-1, 3, 4, 5, Integer.MIN_VALUE, Integer.MAX_VALUE}) {
            refused(State.SOME, 32, "scan of three in five from " + f, INDEX, h -> h.scan(1, 1, f));
        }
        for (int f : new int[] {-1, 51, 59, 60, Integer.MIN_VALUE, Integer.MAX_VALUE}) {
            refused(State.FULL, 32, "scan of ten in sixty from " + f, INDEX, h -> h.scan(0, 1, f));
        }
        refused(State.OVERLOADED, 32, "scan of no cells", INDEX, h -> h.scan(3, 2, 0));
        refused(State.OVERLOADED, 32, "scan of no cells, CAST first", CAST, h -> h.scan(3, 1, 0));
    }
}
