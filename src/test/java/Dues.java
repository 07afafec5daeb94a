/** Compares answers with those that are due, and ends a test with exit code 1 if one differs. */
final class Dues {

    static final int BEYOND = -1000000001;
    static final int NONE = -1000000002;
    static final int STATE = -1000000003;
    static final int FULL = -1000000004;
    static final int KIND = -1000000005;

    private int asked = 0;
    private int wrong = 0;

    void due(String call, Object got, Object want) {
        asked++;
        if (!got.equals(want)) {
            wrong++;
            System.out.println(call + " answered " + got + ", due is " + want);
        }
    }

    boolean failed() {
        return wrong > 0;
    }

    void end(String test) {
        System.out.println(test + ": " + asked + " answers, " + wrong + " wrong");
        if (wrong > 0) {
            System.exit(1);
        }
    }

    /** Feeds signs to the tape. */
    static void feed(RopesAtDawn x, String signs) {
        for (int i = 0; i < signs.length(); i++) {
            x.feed(signs.charAt(i), 1);
        }
    }

    /** What text(use) answers for these signs. */
    static int text(RopesAtDawn x, int use, String signs) {
        feed(x, signs);
        return x.text(use);
    }
}
