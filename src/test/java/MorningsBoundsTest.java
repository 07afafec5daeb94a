/** The bounds that the document names for promises 37 to 41: draws, mornings, voices and their trace. */
public final class MorningsBoundsTest {

    private static final Bounds B = new Bounds();
    private static final int MIN = Integer.MIN_VALUE;
    private static final int MAX = Integer.MAX_VALUE;

    public static void main(String[] args) {
        nobodyGoes();
        belowRisk();
        drawsGoRound();
        drawsOfTheLost();
        wholeCrossing();
        mornings();
        seed();
        voice();
        voicesGoRound();
        anyNumber();
        trace();
        longestTrace();
        B.end("MorningsBoundsTest");
    }

    /** So many without strength on a rope of a kind, a piece or several, a risk. */
    private static String[] weak(String risk, int kind, int people, int pieces) {
        String[] calls = {"tape " + risk, "text(0)", "rope(" + kind + ", 1, 0)", "join(0)"};
        for (int i = 0; i < people; i++) {
            calls = Worlds.with(calls, "person(100, 0, 1, 0)", "tie(0, " + i + ")");
        }
        for (int i = 0; i < pieces; i++) {
            calls = Worlds.with(calls, "piece(0, 0, 0, 1)");
        }
        return calls;
    }

    private static void nobodyGoes() {
        B.says(37, "ROPES in THE LINE: none, or without PEOPLE, or no PIECES: nobody draws");
        B.from(Worlds.EMPTY);
        B.takes("morning()", 0, "count(8)", 1);
        B.from(weak("1000", 0, 3, 0));
        B.takes("morning()", 0, "count(8)", 1);
        B.from(weak("1000", 0, 0, 3));
        B.takes("morning()", 0, "count(8)", 1);
        B.from(weak("1000", 0, 3, 3), "clear()");
        B.takes("morning()", 0, "count(8)", 1);
    }

    private static void belowRisk() {
        B.says(37, "if its rest by 1000 is below RISK");
        // Numbers to begin with, and the rest of the draw that they make.
        int[][] rests = {{7663, 0}, {751, 1}, {1, 654}, {321, 998}, {14575, 999}};
        for (int[] r : rests) {
            B.from(weak(String.valueOf(r[1]), 0, 1, 1), "seed(" + r[0] + ")");
            B.takes("morning()", 0);
            B.from(weak(String.valueOf(r[1] + 1), 0, 1, 1), "seed(" + r[0] + ")");
            B.takes("morning()", 1);
        }
        B.says(37, "HELD: nothing");
        B.from(weak("1000", 0, 1, 1), "person(100, 100, 1, 0)", "person(100, 99, 1, 0)");
        B.takes("tie(0, 1)", 1, "morning()", 3, "seed(1)", -1770082073, "untie(1)", 0, "morning()", 1);
        B.takes("tie(0, 2)", 1, "morning()", 5);
        B.from(weak("1000*!b", 0, 1, 1), "person(100, 100, 1, 0)", "person(100, 99, 1, 0)");
        B.takes("tie(0, 1)", 1, "morning()", 0, "untie(1)", 0, "tie(0, 2)", 1, "morning()", 5);
    }

    private static void drawsGoRound() {
        B.says(37, "each makes it z * 1103515245 + 12345 (an int), and gives z >>> 8");
        int[][] next = {{1, 1103527590}, {0, 12345}, {-1, -1103502900}, {MAX, 1043980748}, {MIN, -2147471303}};
        for (int[] z : next) {
            B.from(weak("0", 0, 1, 1), "seed(" + z[0] + ")");
            B.takes("morning()", 0, "count(8)", z[1]);
        }
        B.says(37, "z >>> 8 is never below 0");
        // The draw makes -1770082073, whose rest is 832.
        B.from(weak("832", 0, 1, 1), "seed(1103527590)");
        B.takes("morning()", 0, "count(8)", -1770082073);
        B.from(weak("833", 0, 1, 1), "seed(1103527590)");
        B.takes("morning()", 1, "count(8)", -1770082073);
    }

    private static void drawsOfTheLost() {
        B.says(37, "its PEOPLE in order who aren't lost: a draw");
        B.from(weak("1000", 6, 2, 3));
        B.takes("morning()", 3, "count(8)", -1770082073);
        B.says(37, "on other than BARE ROPES all on it are lost");
        B.from(weak("1000", 0, 5, 3));
        B.takes("morning()", 31, "count(8)", 1103527590);
        B.from(weak("1000*(b=1)", 6, 3, 1));
        B.takes("morning()", 2, "count(8)", 662824084);
        B.from(weak("1000*(b=1)", 4, 3, 1));
        B.takes("morning()", 7, "count(8)", -1770082073);
        B.says(37, "ROPES stay as they are");
        B.takes("morning()", 7, "ofRope(0, 3)", 3, "ofPerson(2, 4)", 0, "count(4)", 1);
        B.says(37, "who is lost, as bits: ten");
        B.from(Worlds.FULL, "text(1)", "tape 1000", "text(0)", "clear()", "join(2)", "untie(0)", "tie(2, 0)", "tie(2, 9)");
        B.takes("morning()", 513);
    }

    private static void wholeCrossing() {
        B.says(37, "RISK as told by the whole CROSSING, whoever is lost");
        B.from(weak("1000*(b<1)+1000*(b=2)", 6, 4, 1));
        B.takes("morning()", 5, "count(8)", -999580867);
        B.from(weak("1000*(b<2)+1000*(b=3)", 0, 2, 1), "rope(6, 1, 0)", "join(1)", "person(100, 0, 1, 0)", "person(100, 0, 1, 0)",
            "tie(1, 2)", "tie(1, 3)");
        B.takes("morning()", 3 + 8, "count(8)", 662824084);
        B.says(37, "BEFORE: all of ROPES ahead in THE LINE, of the third ROPE");
        B.from(weak("1000*(b=3)", 6, 2, 1), "rope(6, 1, 0)", "rope(6, 1, 0)", "join(1)", "join(2)", "person(50, 0, 1, 0)",
            "person(50, 0, 1, 0)", "tie(1, 2)", "tie(2, 3)");
        B.takes("morning()", 8);
        B.says(37, "HOUR of the CROSSING, which nobody asked about ahead");
        for (int start : new int[] {598, 599, 600}) {
            B.from(weak("1000*(h=10)", 6, 1, 2), "start(" + start + ")");
            B.takes("morning()", start >= 599 ? 1 : 0);
        }
        B.from(weak("1000*(h=10)", 6, 1, 1), "start(659)");
        B.takes("morning()", 1, "start(660)", 659, "morning()", 0, "start(599)", 660, "morning()", 0);
    }

    private static void mornings() {
        B.from(weak("655", 0, 1, 1));
        B.says(38, "m (1 to 40) MORNINGS");
        B.takes("mornings(1, 0)", 0, "count(8)", 1103527590, "mornings(1, 1)", 0, "mornings(2, 0)", 0, "mornings(2, 1)", 1);
        B.from(weak("1000", 0, 5, 1));
        B.takes("mornings(40, 1)", 200, "mornings(40, 0)", 0, "mornings(39, 1)", 195);
        B.from(weak("0", 0, 5, 1));
        B.takes("mornings(40, 0)", 40, "mornings(40, 1)", 0, "mornings(1, 0)", 1);
        B.from(Worlds.EMPTY);
        B.takes("mornings(40, 0)", 40, "mornings(40, 1)", 0, "count(8)", 1);
        B.says(38, "BEYOND");
        B.from(Worlds.RICH);
        B.refuses("mornings(0, 0)", Dues.BEYOND);
        B.refuses("mornings(41, 0)", Dues.BEYOND);
        B.refuses("mornings(-1, 1)", Dues.BEYOND);
        B.refuses("mornings(MAX, 1)", Dues.BEYOND);
        B.refuses("mornings(5, -1)", Dues.BEYOND);
        B.refuses("mornings(5, 2)", Dues.BEYOND);
        B.refuses("mornings(MIN, MIN)", Dues.BEYOND);
    }

    private static void seed() {
        B.from(Worlds.EMPTY);
        B.says(39, "z becomes v: what it was (any number)");
        for (int v : new int[] {MIN, MAX, 0, -1, -1000000000, Dues.BEYOND, Dues.KIND}) {
            B.takes("seed(" + v + ")", 1, "seed(5)", v, "told(1)", 0, "told(5)", 0, "count(8)", 5);
        }
    }

    private static void voice() {
        B.from(Worlds.RICH);
        B.says(40, "A VOICE of a ROPE: 0 holds, 1 parts, 2 leads, 3 tells. BEYOND.");
        B.takes("voice(3, 0, 5)", 27, "voice(0, 3, 0)", (-2 - 2) * 5);
        B.refuses("voice(0, -1, 5)", Dues.BEYOND);
        B.refuses("voice(0, 4, 5)", Dues.BEYOND);
        B.refuses("voice(-1, 0, 5)", Dues.BEYOND);
        B.refuses("voice(4, 0, 5)", Dues.BEYOND);
        B.refuses("voice(MAX, MIN, MAX)", Dues.BEYOND);
        B.from(Worlds.EMPTY);
        B.refuses("voice(0, 0, 0)", Dues.BEYOND);
    }

    /** What rope 2 of a kind with knots 7 answers for holds, parts, leads, tells. */
    private static void answers(int kind, int x, int... want) {
        B.from(Worlds.EMPTY, "rope(0, 1, 0)", "rope(0, 1, 0)", "rope(" + kind + ", 1, 7)");
        for (int act = 0; act < 4; act++) {
            B.takes("voice(2, " + act + ", " + x + ")", want[act]);
        }
    }

    private static void voicesGoRound() {
        B.says(40, "with a number x (ints that go round)");
        answers(0, MAX, MIN + 1, 2, MAX - 7, 2 ^ MAX - 7);
        answers(0, MIN, MIN + 2, 4, MAX - 6, 4 ^ MAX - 6);
        answers(1, MAX, MIN + 1, 2 + 6, MAX - 7, 8 ^ MAX - 7);
        answers(2, MAX, MIN + 3, 6, MAX - 7, 6 ^ MAX - 7);
        answers(2, MIN, MIN + 6, 12, MAX - 6, 12 ^ MAX - 6);
        answers(3, MAX, MIN + 6, 12, MIN + 8, 12 ^ MIN + 8);
        answers(3, MIN, MIN + 9, 18, MIN + 7, 18 ^ MIN + 7);
        answers(4, MAX, MIN + 1, 2, MAX - 7, (2 ^ MAX - 7) - 4);
        answers(5, 0, 0, 0, -7, (-7 - 6) * 5);
        answers(5, MAX, MIN + 3, 6, MAX - 7, ((6 ^ MAX - 7) - 6) * 5);
        answers(6, MIN, MIN + 2, 0, MAX - 4, MAX - 4);
        answers(6, MAX, MIN + 1, 0, MAX - 5, MAX - 5);
    }

    private static void anyNumber() {
        B.says(40, "any number: what looks like an ERROR is none");
        B.from(Worlds.EMPTY, "rope(0, 1, 0)");
        for (int v : new int[] {Dues.BEYOND, Dues.NONE, Dues.STATE, Dues.FULL, Dues.KIND}) {
            B.takes("voice(0, 2, " + v + ")", v, "told(1)", 0, "told(2)", 0, "told(3)", 0, "told(4)", 0, "told(5)", 0);
        }
    }

    private static void trace() {
        B.from(Worlds.RICH);
        B.says(41, "THE TRACE's i-th. NONE: there is none such.");
        B.takes("trace(0)", 13, "trace(5)", 12, "count(7)", 6);
        B.refuses("trace(-1)", Dues.NONE);
        B.refuses("trace(6)", Dues.NONE);
        B.refuses("trace(40)", Dues.NONE);
        B.refuses("trace(MIN)", Dues.NONE);
        B.refuses("trace(MAX)", Dues.NONE);
        B.says(41, "BODIES of the latest voice()");
        B.takes("voice(0, 2, 4)", 2, "trace(0)", 12, "trace(1)", Dues.NONE, "count(7)", 1);
        B.says(41, "a refused voice() leaves it");
        B.takes("trace(0)", 13, "voice(0, 4, 4)", Dues.BEYOND, "trace(0)", 13, "count(7)", 6);
        B.from(Worlds.EMPTY);
        B.refuses("trace(0)", Dues.NONE);
    }

    private static void longestTrace() {
        B.says(41, "as they began (what stands left is worked out first)");
        B.from(Worlds.EMPTY, "rope(5, 1, 0)", "voice(0, 3, 9)");
        B.takes("count(7)", 9, "trace(0)", 61, "trace(1)", 50, "trace(2)", 13, "trace(3)", 11, "trace(4)", 60, "trace(5)", 10,
            "trace(6)", 12, "trace(7)", 60, "trace(8)", 10, "trace(9)", Dues.NONE);
        B.from(Worlds.EMPTY, "rope(6, 1, 0)", "voice(0, 3, 9)");
        B.takes("count(7)", 4, "trace(0)", 13, "trace(1)", 70, "trace(2)", 71, "trace(3)", 12, "trace(4)", Dues.NONE);
        B.from(Worlds.EMPTY, "rope(3, 1, 0)", "voice(0, 3, 9)");
        B.takes("count(7)", 7, "trace(1)", 11, "trace(2)", 41, "trace(3)", 30, "trace(4)", 10, "trace(5)", 40, "trace(6)", 12);
    }
}
