import java.util.function.ToLongFunction;

/** One hall, and how often it was called: behind its 512th call the document promises nothing. */
final class Run {
    static final int MOST_CALLS = 512;

    private final WindHall hall = new WindHall();
    private int calls = 0;

    long ask(ToLongFunction<WindHall> call) {
        calls++;
        if (calls > MOST_CALLS) {
            throw new IllegalStateException("a test calls one hall more than 512 times");
        }
        return call.applyAsLong(hall);
    }
}
