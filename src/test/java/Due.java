/** Counts the answers that are not the ones that are due. */
final class Due {
    private final String name;
    private int asked = 0;
    private int wrong = 0;
    private int promise = 0;
    private String sentence = "";

    Due(String name) {
        this.name = name;
    }

    /** What is asked from here on is about these words of the document. */
    void says(int ofPromise, String words) {
        promise = ofPromise;
        sentence = words;
    }

    /** An answer about the words that were said last. */
    void due(String call, long got, long want) {
        due(promise, "\"" + sentence + "\": " + call, got, want);
    }

    void due(int ofPromise, String call, long got, long want) {
        asked++;
        if (got != want) {
            wrong++;
            if (wrong <= 50) {
                System.out.println("promise " + ofPromise + ": " + call + " answered " + got + ", due is " + want);
            }
        }
    }

    void end() {
        System.out.println(name + ": " + asked + " answers, " + wrong + " not as due");
        if (asked == 0 || wrong != 0) {
            System.exit(1);
        }
    }
}
