/** Promises 40 and 41: voices and their trace. */
public final class VoicesTest {

    private static final Dues DUES = new Dues();

    public static void main(String[] args) {
        kind(0, new int[] {7, 14, 2, 12}, "10", "11 10", "12", "13 11 10 12");
        kind(1, new int[] {7, 16, 2, 18}, "10", "20 11 10 12", "12", "13 20 11 10 12 12");
        kind(2, new int[] {21, 42, 2, 40}, "30 10", "11 30 10", "12", "13 11 30 10 12");
        kind(3, new int[] {24, 48, -2, -50}, "41 30 10", "11 41 30 10", "40 12", "13 11 41 30 10 40 12");
        kind(4, new int[] {7, 14, 2, 8}, "10", "11 10", "12", "50 13 11 10 12 10");
        kind(5, new int[] {5, 10, 2, 10}, "60 10", "11 60 10", "12", "61 50 13 11 60 10 12 60 10");
        kind(6, new int[] {7, 0, 4, 4}, "10", "70", "71 12", "13 70 71 12");
        wrapping();
        errors();
        DUES.end("VoicesTest");
    }

    private static void due(String call, int got, int want) {
        DUES.due(call, got, want);
    }

    /** Rope 2 of a kind with 3 knots, asked with 5. */
    private static void kind(int kind, int[] want, String... traces) {
        RopesAtDawn x = new RopesAtDawn();
        x.rope(0, 1, 0);
        x.rope(0, 1, 0);
        x.rope(kind, 1, 3);
        for (int act = 0; act < 4; act++) {
            String call = "kind " + kind + " act " + act;
            due("40: " + call, x.voice(2, act, 5), want[act]);
            String[] bodies = traces[act].split(" ");
            due("49: bodies of " + call, x.count(7), bodies.length);
            for (int i = 0; i < bodies.length; i++) {
                due("41: " + i + " of " + call, x.trace(i), Integer.parseInt(bodies[i]));
            }
            due("41: behind the last of " + call, x.trace(bodies.length), Dues.NONE);
        }
    }

    private static void wrapping() {
        RopesAtDawn x = new RopesAtDawn();
        x.rope(0, 1, 9);
        x.rope(2, 1, 0);
        due("40: parts goes round", x.voice(0, 1, Integer.MAX_VALUE), -2);
        due("40: leads goes round", x.voice(0, 2, Integer.MIN_VALUE), Integer.MAX_VALUE - 8);
        due("40: holds goes round", x.voice(1, 0, Integer.MAX_VALUE), Integer.MIN_VALUE);
        due("40: any number", x.voice(1, 2, Dues.BEYOND), Dues.BEYOND);
        due("40: that was no error", x.told(1), 0);
    }

    private static void errors() {
        RopesAtDawn x = new RopesAtDawn();
        due("40: no rope", x.voice(0, 0, 0), Dues.BEYOND);
        x.rope(0, 1, 0);
        x.voice(0, 1, 0);
        due("40: act 4", x.voice(0, 4, 0), Dues.BEYOND);
        due("40: act -1", x.voice(0, -1, 0), Dues.BEYOND);
        due("40: rope 1", x.voice(1, 0, 0), Dues.BEYOND);
        due("40: rope -1", x.voice(-1, 0, 0), Dues.BEYOND);
        due("41: the trace stays", x.trace(1), 10);
        due("41: i -1", x.trace(-1), Dues.NONE);
        due("41: far behind", x.trace(Integer.MAX_VALUE), Dues.NONE);
    }
}
