import java.util.ArrayList;
import java.util.List;

/** A call whose numbers the document tells from where to where: the first and the last that are as told. */
final class Told {
    interface Ask {
        long of(WindHall x, int... numbers);
    }

    private static final int MIN = Integer.MIN_VALUE, MAX = Integer.MAX_VALUE;
    private static final int[] METER = {0, 2}, LOAD = {-50, 50}, READING = {-2000000, 2000000}, UVW = {-10000, 10000};

    final int promise;
    final String name;
    final long refused;
    /** Numbers that are as told, if there are any. */
    final int[] base;
    final int[][] ends;
    final Ask ask;

    private Told(int promise, String name, long refused, Ask ask, int[] base, int[]... ends) {
        this.promise = promise;
        this.name = name;
        this.refused = refused;
        this.ask = ask;
        this.base = base;
        this.ends = ends;
    }

    private Told(int promise, String name, Ask ask, int[] base, int[]... ends) {
        this(promise, name, WindHall.BAD, ask, base, ends);
    }

    /** Whether there are numbers as told for all but one of them. */
    boolean isAskable(int exceptFor) {
        for (int n = 0; n < ends.length; n++) {
            if (n != exceptFor && ends[n][0] > ends[n][1]) {
                return false;
            }
        }
        return true;
    }

    int[] with(int n, int number) {
        int[] numbers = base.clone();
        numbers[n] = number;
        return numbers;
    }

    List<Integer> inside(int n) {
        return ends[n][0] > ends[n][1] ? List.of() : List.of(ends[n][0], ends[n][1]);
    }

    List<Integer> outside(int n) {
        List<Integer> all = new ArrayList<>();
        if (ends[n][0] > MIN) {
            all.add(ends[n][0] - 1);
            all.add(MIN);
        }
        if (ends[n][1] < MAX) {
            all.add(ends[n][1] + 1);
            all.add(MAX);
        }
        return all;
    }

    static List<Told> all(State state) {
        List<Told> all = new ArrayList<>();
        addBalance(all);
        addCorrections(all, new int[] {0, state.corrections - 1}, new int[] {0, state.corrections - 2});
        addProgram(all, new int[] {0, state.places - 1});
        addSettling(all);
        addTubes(all, new int[] {0, state.tubes - 1});
        return all;
    }

    private static void addBalance(List<Told> all) {
        for (int n = 0; n < 3; n++) {
            int i = n;
            for (int m = 0; m < 3; m++) {
                int j = m;
                all.add(new Told(2, "first of " + i + " " + j, (x, v) -> x.first(i, j, v[0]), new int[1], new int[] {-100, 100}));
            }
            for (int m = 0; m < 6; m++) {
                int p = m;
                all.add(new Told(3, "second of " + i + " " + p, (x, v) -> x.second(i, p, v[0]), new int[1], new int[] {-20, 20}));
            }
            all.add(new Told(4, "reading of " + i, 9999999, (x, v) -> x.reading(i, v[0], v[1], v[2]), new int[3],
                    LOAD, LOAD, LOAD));
        }
        all.add(new Told(2, "first", (x, v) -> x.first(v[0], v[1], 1), new int[2], METER, METER));
        all.add(new Told(3, "second", (x, v) -> x.second(v[0], v[1], 1), new int[2], METER, new int[] {0, 5}));
        all.add(new Told(4, "reading", 9999999, (x, v) -> x.reading(v[0], 1, 2, 3), new int[1], METER));
        all.add(new Told(5, "back", (x, v) -> x.back(v[0], v[1], v[2], v[3]), new int[] {0, 0, 0, 1},
                READING, READING, READING, new int[] {1, 50}));
        all.add(new Told(7, "point", (x, v) -> x.point(v[0], v[1], v[2], v[3], v[4], v[5]), new int[6],
                LOAD, LOAD, LOAD, READING, READING, READING));
        all.add(new Told(8, "fit", -1000000000000L, (x, v) -> x.fit(v[0], v[1], v[2]), new int[3],
                METER, METER, new int[] {0, 1}));
        all.add(new Told(9, "miss", (x, v) -> x.miss(v[0]), new int[1], METER));
    }

    private static void addCorrections(List<Told> all, int[] one, int[] two) {
        all.add(new Told(11, "correct", (x, v) -> x.correct(v[0], 1, 1, 1), new int[1], new int[] {0, 4}));
        for (int n : new int[] {0, 1, 2, 4}) {
            int kind = n;
            all.add(new Told(11, "correct of kind " + kind, (x, v) -> x.correct(kind, v[0], v[1], v[2]), new int[3], UVW, UVW, UVW));
        }
        all.add(new Told(11, "correct of kind 3", (x, v) -> x.correct(3, v[0], v[1], v[2]), new int[3],
                new int[] {-300, 300}, new int[] {MIN, MAX}, new int[] {MIN, MAX}));
        all.add(new Told(12, "turn on", (x, v) -> x.turn(v[0], true), new int[1], one));
        all.add(new Told(12, "turn off", (x, v) -> x.turn(v[0], false), new int[1], one));
        all.add(new Told(13, "swap", (x, v) -> x.swap(v[0]), new int[1], two));
        all.add(new Told(15, "raw", (x, v) -> x.raw(v[0], v[1], v[2], v[3], v[4]), new int[5],
                READING, READING, READING, new int[] {0, 1000}, new int[] {0, 23}));
        all.add(new Told(17, "touches", (x, v) -> x.touches(v[0]), new int[1], one));
        all.add(new Told(18, "minds", (x, v) -> x.minds(v[0]), new int[1], two));
    }

    private static void addProgram(List<Told> all, int[] one) {
        all.add(new Told(19, "place", (x, v) -> x.place(v[0], v[1]), new int[2], new int[] {0, 23}, new int[] {0, 9}));
        all.add(new Told(20, "done", (x, v) -> x.done(v[0], true), new int[1], one));
        all.add(new Told(20, "not done", (x, v) -> x.done(v[0], false), new int[1], one));
        all.add(new Told(21, "moves", (x, v) -> x.moves(v[0], v[1]), new int[2], one, one));
        all.add(new Told(23, "order", (x, v) -> x.order(v[0]), new int[1], new int[] {0, MAX}));
    }

    private static void addSettling(List<Told> all) {
        all.add(new Told(24, "rule", (x, v) -> x.rule(v[0], v[1], v[2], v[3]), new int[] {2, 2, 2, 2},
                new int[] {1, 8}, new int[] {0, 100000}, new int[] {1, 100}, new int[] {1, 2000000}));
        all.add(new Told(25, "come", (x, v) -> x.come(v[0], v[1], v[2]), new int[3], READING, READING, READING));
        all.add(new Told(26, "settled", (x, v) -> x.settled(v[0]), new int[1], new int[] {0, 5}));
    }

    private static void addTubes(List<Told> all, int[] one) {
        int[] sheet = {0, 3};
        int[] lane = {0, 2};
        all.add(new Told(28, "tube", (x, v) -> x.tube(v[0]), new int[] {1}, new int[] {1, 100}));
        all.add(new Told(29, "press", (x, v) -> x.press(v[0], false, v[1]), new int[2], one, new int[] {-1000, 1000}));
        all.add(new Told(29, "press lost", (x, v) -> x.press(v[0], true, 0), new int[1], one));
        all.add(new Told(30, "sheet", (x, v) -> x.sheet(v[0], v[1], v[2]), new int[3], sheet, lane, new int[] {MIN, 60}));
        all.add(new Told(31, "lay", (x, v) -> x.lay(v[0], v[1], v[2]), new int[3], sheet, new int[] {MIN, MAX}, new int[] {MIN, MAX}));
        all.add(new Told(32, "scan", (x, v) -> x.scan(v[0], v[1], v[2]), new int[3], sheet, lane, new int[] {MIN, MAX}));
        all.add(new Told(34, "check", (x, v) -> x.check(v[0], v[1]), new int[2], READING, new int[] {0, 100000}));
        all.add(new Told(35, "fill", (x, v) -> x.fill(v[0]), new int[1], READING));
        all.add(new Told(36, "count", (x, v) -> x.count(v[0]), new int[1], new int[] {0, 5}));
    }
}
