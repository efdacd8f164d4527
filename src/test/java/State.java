/** States of a hall from which tests go on: the empty, the full, and each way in which a call may be refused. */
enum State {
    NEW(0, 0, 0, 0, new int[] {4, 10, 20, 1000000}),
    SOME(3, 4, 3, 3, new int[] {3, 5, 9, 1000}),
    FULL(12, 10, 9, 10, new int[] {8, 7, 12, 500}),
    OVERLOADED(1, 1, 1, 2, new int[] {2, 0, 3, 1}),
    TIRED(2, 2, 2, 1, new int[] {4, 3, 5, 700});

    final int points;
    final int corrections;
    final int places;
    final int tubes;
    /** N, D, MOST, LIMIT. */
    final int[] rule;

    State(int points, int corrections, int places, int tubes, int[] rule) {
        this.points = points;
        this.corrections = corrections;
        this.places = places;
        this.tubes = tubes;
        this.rule = rule;
    }

    Run make() {
        Run x = new Run();
        if (this != NEW) {
            fillRows(x);
            x.ask(h -> h.rule(rule[0], rule[1], rule[2], rule[3]));
        }
        switch (this) {
            case SOME:
                bringSome(x);
                break;
            case FULL:
                bringFull(x);
                break;
            case OVERLOADED:
                bringOverloaded(x);
                break;
            case TIRED:
                bringTired(x);
                break;
            default:
                break;
        }
        return x;
    }

    private void fillRows(Run x) {
        for (int n = 0; n < points; n++) {
            int k = n;
            x.ask(h -> h.point(k % 3 == 0 ? 5 + k : 1, k % 3 == 1 ? 7 : -2, k % 3 == 2 ? 9 + k : 3,
                    900 * k + 1, 77 - 800 * k, 650 * k));
        }
        for (int n = 0; n < corrections; n++) {
            int k = n;
            x.ask(h -> h.correct(k % 5, 100 + k, 7 * k - 20, 31 - k));
        }
        for (int n = 0; n < places; n++) {
            int k = n;
            x.ask(h -> h.place((5 + 7 * k) % 24, (9 - 4 * k % 10 + 10) % 10));
        }
        for (int n = 0; n < tubes; n++) {
            int k = n;
            x.ask(h -> h.tube(3 + 2 * k));
            x.ask(h -> h.press(k, false, 40 * k - 111));
        }
    }

    private static void bringSome(Run x) {
        x.ask(h -> h.first(0, 1, -3));
        x.ask(h -> h.first(2, 0, 4));
        x.ask(h -> h.second(1, 2, 6));
        x.ask(h -> h.back(5100, -2000, 30300, 1));
        x.ask(h -> h.turn(1, false));
        x.ask(h -> h.raw(1234, -4321, 99, 333, 5));
        x.ask(h -> h.done(1, true));
        x.ask(h -> h.come(10, 20, 30));
        x.ask(h -> h.come(12, 19, 35));
        x.ask(h -> h.press(2, true, 0));
        for (int n = 0; n < 3; n++) {
            int lane = n;
            x.ask(h -> h.sheet(lane, lane, 5));
            x.ask(h -> h.lay(lane, 0, 20 + lane));
            x.ask(h -> h.lay(lane, 4, -90 - lane));
        }
    }

    private static void bringFull(Run x) {
        x.ask(h -> h.second(0, 5, -20));
        x.ask(h -> h.back(7000, 8000, 9400, 50));
        x.ask(h -> h.turn(9, false));
        x.ask(h -> h.raw(2000000, -2000000, 7, 1000, 23));
        x.ask(h -> h.done(0, true));
        x.ask(h -> h.done(8, true));
        for (int n = 0; n < 8; n++) {
            int k = n;
            x.ask(h -> h.come(k, 400 - k, -500));
        }
        for (int n = 0; n < 4; n++) {
            int k = n;
            x.ask(h -> h.sheet(k, (k + 1) % 3, 60));
            x.ask(h -> h.lay(k, 0, 60 + k));
            x.ask(h -> h.lay(k, 59, 99));
        }
    }

    private static void bringOverloaded(Run x) {
        x.ask(h -> h.back(1000, 2000, -3000, 9));
        x.ask(h -> h.first(1, 1, 0));
        x.ask(h -> h.done(0, true));
        x.ask(h -> h.come(1, 1, -1));
        x.ask(h -> h.come(0, -2, 2));
        x.ask(h -> h.press(0, true, 0));
        x.ask(h -> h.press(1, true, 0));
        x.ask(h -> h.sheet(3, 2, 0));
    }

    private static void bringTired(Run x) {
        x.ask(h -> h.raw(5, 6, 7, 999, 18));
        x.ask(h -> h.swap(0));
        for (int n = 0; n < 5; n++) {
            int k = n;
            x.ask(h -> h.come(4 * (k % 2), 0, 0));
        }
        x.ask(h -> h.press(0, true, 0));
        x.ask(h -> h.sheet(0, 1, 1));
        x.ask(h -> h.lay(0, 0, 700));
    }
}
