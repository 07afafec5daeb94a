/** The bounds that the document names for promises 28 to 36: what would be best, and taking it. */
public final class BestBoundsTest {

    private static final Bounds B = new Bounds();

    public static void main(String[] args) {
        order();
        orderOfSeveral();
        space();
        spaceOfSeveral();
        line();
        lineOfSeveral();
        parts();
        partsOfSeveral();
        fiveAtMost();
        latest();
        latestJust();
        best();
        bestOfSeveral();
        left();
        leftOfSeveral();
        lead();
        leadOfSeveral();
        take();
        takeWhatIsBest();
        B.end("BestBoundsTest");
    }

    /** People of these weights without strength or hurry, so many ropes of a kind in the line, one piece, a risk. */
    private static String[] weak(String risk, int kind, int ropes, int... weights) {
        String[] calls = {"tape " + risk, "text(0)", "piece(0, 0, 0, 1)"};
        for (int w : weights) {
            calls = Worlds.with(calls, "person(" + w + ", 0, 10, 0)");
        }
        for (int rope = 0; rope < ropes; rope++) {
            calls = Worlds.with(calls, "rope(" + kind + ", 3, 0)", "join(" + rope + ")");
        }
        return calls;
    }

    private static String[] tied(String[] world, int rope, int... people) {
        String[] calls = world;
        for (int person : people) {
            calls = Worlds.with(calls, "tie(" + rope + ", " + person + ")");
        }
        return calls;
    }

    private static void order() {
        B.from(Worlds.RICH);
        B.says(28, "i -1 TOLL then, else who is i-th. BEYOND: ROPE, i below -1.");
        B.takes("order(1, -1)", 1137);
        B.takes("order(1, 0)", 3, "order(1, 1)", 4);
        B.refuses("order(0, -2)", Dues.BEYOND);
        B.refuses("order(0, MIN)", Dues.BEYOND);
        B.refuses("order(-1, 0)", Dues.BEYOND);
        B.refuses("order(4, 0)", Dues.BEYOND);
        B.refuses("order(MAX, -1)", Dues.BEYOND);
        B.says(28, "STATE: it isn't in THE LINE");
        B.refuses("order(3, -1)", Dues.STATE);
        B.refuses("order(3, 0)", Dues.STATE);
        B.says(28, "NONE: there are not so many");
        B.refuses("order(0, 3)", Dues.NONE);
        B.refuses("order(1, 2)", Dues.NONE);
        B.refuses("order(0, MAX)", Dues.NONE);
        B.says(28, "NONE: a ROPE without PEOPLE");
        B.refuses("order(2, 0)", Dues.NONE);
        B.says(28, "BEYOND. STATE. NONE.");
        B.refuses("order(3, -2)", Dues.BEYOND);
        B.refuses("order(4, 9)", Dues.BEYOND);
        B.refuses("order(3, 9)", Dues.STATE);
        B.says(28, "five on a ROPE");
        B.from(tied(weak("5", 0, 1, 50, 60, 70, 80, 90), 0, 4, 3, 2, 1, 0));
        B.takes("order(0, 4)", 4);
        B.refuses("order(0, 5)", Dues.NONE);
    }

    private static void orderOfSeveral() {
        B.says(28, "of several the first as a row");
        B.from(tied(weak("5", 0, 1, 50, 60, 70, 80), 0, 3, 1, 2, 0));
        B.takes("order(0, -1)", 80, "order(0, 0)", 0, "order(0, 1)", 1, "order(0, 2)", 2, "order(0, 3)", 3);
        B.from(tied(weak("w*!b", 0, 1, 60, 50, 50, 60), 0, 3, 2, 1, 0));
        B.takes("order(0, -1)", 200, "order(0, 0)", 1, "order(0, 1)", 0, "order(0, 2)", 2, "order(0, 3)", 3);
        B.says(28, "of all orders of its PEOPLE: the last of 120, the last but one");
        B.from(tied(weak("w*(5-b)", 0, 1, 90, 80, 70, 60, 50), 0, 0, 1, 2, 3, 4));
        B.takes("order(0, 0)", 4, "order(0, 1)", 3, "order(0, 2)", 2, "order(0, 3)", 1, "order(0, 4)", 0);
        B.from(tied(weak("w*(5-b)", 0, 1, 80, 90, 70, 60, 50), 0, 0, 1, 2, 3, 4));
        B.takes("order(0, 0)", 4, "order(0, 1)", 3, "order(0, 2)", 2, "order(0, 3)", 0, "order(0, 4)", 1);
        B.says(28, "a ROPE of one, a ROPE of none");
        B.from(tied(weak("w", 0, 2, 60), 0, 0));
        B.takes("order(0, -1)", 60, "order(0, 0)", 0, "order(1, -1)", 60, "order(1, 0)", Dues.NONE);
        B.says(28, "the order stays as it is");
        B.from(tied(weak("w*!b", 0, 1, 60, 50), 0, 0, 1));
        B.takes("order(0, 0)", 1, "ofRope(0, 5)", 0, "toll()", 120, "order(0, -1)", 100);
    }

    private static void space() {
        B.from(Worlds.RICH);
        B.says(29, "BEYOND");
        B.refuses("space(-1)", Dues.BEYOND);
        B.refuses("space(4)", Dues.BEYOND);
        B.refuses("space(MIN)", Dues.BEYOND);
        B.says(29, "STATE likewise");
        B.refuses("space(3)", Dues.STATE);
        B.from(Worlds.RICH, "clear()");
        B.refuses("space(0)", Dues.STATE);
    }

    private static void spaceOfSeveral() {
        B.says(29, "that (1 to 20) by which TOLL is least");
        B.from(tied(weak("9", 1, 1, 100, 100), 0, 0, 1));
        B.takes("space(0)", 20, "ofRope(0, 1)", 3);
        B.from(tied(weak("9", 1, 1, 101, 101), 0, 0, 1));
        B.takes("space(0)", 1);
        B.says(29, "of several the least");
        B.from(tied(weak("9", 1, 1, 96, 95), 0, 0, 1));
        B.takes("space(0)", 20);
        B.from(tied(weak("9", 1, 1, 95, 95), 0, 0, 1));
        B.takes("space(0)", 19);
        B.from(tied(weak("9", 0, 1, 95, 95), 0, 0, 1));
        B.takes("space(0)", 1);
        B.from(Worlds.RICH);
        B.takes("space(2)", 1);
        B.says(29, "LONG: less SPACE holds better, 1 is the least");
        B.from(tied(weak("9", 3, 1, 88, 88), 0, 0, 1), "set(0, 1, 9)");
        B.takes("space(0)", 1);
    }

    private static void line() {
        B.from(Worlds.RICH);
        B.says(30, "i -1 TOLL then, else the i-th ROPE. BEYOND: i below -1.");
        B.takes("line(-1)", 1137);
        B.takes("line(2)", 2);
        B.refuses("line(-2)", Dues.BEYOND);
        B.refuses("line(MIN)", Dues.BEYOND);
        B.says(30, "NONE: there are not so many");
        B.refuses("line(3)", Dues.NONE);
        B.refuses("line(MAX)", Dues.NONE);
        B.from(Worlds.RICH, "clear()");
        B.takes("line(-1)", 0);
        B.refuses("line(0)", Dues.NONE);
        B.from(Worlds.EMPTY);
        B.takes("line(-1)", 0);
        B.refuses("line(0)", Dues.NONE);
        B.refuses("line(-2)", Dues.BEYOND);
        B.from(Worlds.FULL);
        B.refuses("line(6)", Dues.NONE);
    }

    private static void lineOfSeveral() {
        B.says(30, "TOLL least; then the first as a row");
        String[] same = tied(tied(tied(weak("5", 0, 4, 50, 60, 70), 3, 0), 2, 1), 0, 2);
        B.from(same, "clear()", "join(3)", "join(1)", "join(2)", "join(0)");
        B.takes("line(-1)", 15, "line(0)", 0, "line(1)", 1, "line(2)", 2, "line(3)", 3);
        B.takes("line(0)", 0, "ofRope(3, 4)", 0, "ofRope(0, 4)", 3);
        B.says(30, "ROPES without PEOPLE stand in it, too");
        B.from(tied(weak("w*!b", 0, 3, 50, 60), 2, 0), "tie(1, 1)");
        B.takes("line(-1)", 50, "line(0)", 0, "line(1)", 2, "line(2)", 1);
        B.says(30, "of all orders of the ROPES: the last of 720, the last but one");
        B.from(oneEach(90, 85, 80, 70, 60, 50));
        B.takes("line(0)", 5, "line(1)", 4, "line(2)", 3, "line(3)", 2, "line(4)", 1, "line(5)", 0);
        B.from(oneEach(85, 90, 80, 70, 60, 50));
        B.takes("line(0)", 5, "line(1)", 4, "line(2)", 3, "line(3)", 2, "line(4)", 0, "line(5)", 1);
        B.says(30, "of the ROPES in THE LINE alone");
        B.from(same, "clear()", "join(3)", "join(1)");
        B.takes("line(-1)", 5, "line(0)", 1, "line(1)", 3, "line(2)", Dues.NONE);
    }

    /** Each alone on a rope, with a risk that is less the later one goes. */
    private static String[] oneEach(int... weights) {
        String[] calls = weak("w*(9-b)", 0, weights.length, weights);
        for (int i = 0; i < weights.length; i++) {
            calls = tied(calls, i, i);
        }
        return calls;
    }

    private static void parts() {
        B.from(Worlds.RICH);
        B.says(31, "BEYOND: also one ROPE twice");
        B.refuses("parts(0, 0)", Dues.BEYOND);
        B.refuses("parts(-1, 0)", Dues.BEYOND);
        B.refuses("parts(0, -1)", Dues.BEYOND);
        B.refuses("parts(4, 0)", Dues.BEYOND);
        B.refuses("parts(0, 4)", Dues.BEYOND);
        B.refuses("parts(MAX, MIN)", Dues.BEYOND);
        B.says(31, "STATE: one isn't in THE LINE");
        B.refuses("parts(3, 0)", Dues.STATE);
        B.refuses("parts(0, 3)", Dues.STATE);
        B.says(31, "BEYOND. STATE.");
        B.refuses("parts(3, 3)", Dues.BEYOND);
        B.refuses("parts(3, 4)", Dues.BEYOND);
        B.refuses("parts(-1, 3)", Dues.BEYOND);
    }

    private static void partsOfSeveral() {
        B.says(31, "nobody on either");
        B.from(weak("5", 0, 2, 50));
        B.takes("parts(0, 1)", 0, "parts(1, 0)", 0);
        B.says(31, "of several the least as bits of PEOPLE");
        B.from(tied(weak("5", 6, 2, 50, 60, 70), 0, 0, 1, 2));
        B.takes("parts(0, 1)", 0, "parts(1, 0)", 0, "ofRope(0, 3)", 3);
        B.from(tied(weak("5", 0, 2, 50, 60, 70), 0, 1, 2));
        B.takes("parts(0, 1)", 2, "parts(1, 0)", 2);
        B.says(31, "some (bits) on the first of the two, the rest on the second");
        B.from(tied(weak("w*!b", 0, 2, 90, 60, 50), 0, 0, 1, 2));
        B.takes("parts(0, 1)", 4, "parts(1, 0)", 3);
    }

    private static void fiveAtMost() {
        B.says(31, "5 at most on each");
        int[] weights = {50, 50, 50, 50, 50, 50, 50, 50, 50, 50};
        B.from(tied(weak("5", 6, 2, weights), 0, 9, 8, 7, 6, 5));
        B.takes("parts(0, 1)", 0, "tie(1, 0)", 0, "parts(0, 1)", 1, "parts(1, 0)", 1);
        B.from(tied(tied(weak("5", 6, 2, weights), 0, 9, 8, 7, 6, 5), 1, 4, 3, 2, 1));
        B.takes("parts(0, 1)", 2 + 4 + 8 + 16, "tie(1, 0)", 4, "parts(0, 1)", 31, "parts(1, 0)", 31);
        B.says(31, "ten, of whom those of the greatest RISK go on the BARE one");
        String[] mixed = tied(weak("w*10/9", 0, 1, 30, 30, 30, 30, 30, 99, 99, 99, 99, 99), 0, 0, 2, 4, 6, 8);
        B.from(mixed, "rope(6, 1, 0)", "join(1)", "tie(1, 1)", "tie(1, 3)", "tie(1, 5)", "tie(1, 7)", "tie(1, 9)");
        B.takes("parts(0, 1)", 31, "parts(1, 0)", 31 << 5);
    }

    private static void latest() {
        B.from(Worlds.RICH);
        B.says(32, "BEYOND: a MINUTE of 0 to 9999");
        B.takes("latest(9999)", 1439, "count(0)", 200);
        B.refuses("latest(10000)", Dues.BEYOND);
        B.refuses("latest(-1)", Dues.BEYOND);
        B.refuses("latest(MIN)", Dues.BEYOND);
        B.refuses("latest(MAX)", Dues.BEYOND);
        B.refuses("latest(0)", Dues.NONE);
        B.from(Worlds.EMPTY);
        B.takes("latest(0)", 0);
        B.refuses("latest(-1)", Dues.BEYOND);
    }

    private static void latestJust() {
        B.says(32, "the latest START (0 to 1439) with which OVER is that or less; NONE");
        String[] two = tied(tied(weak("5", 0, 2, 50, 60), 0, 0), 1, 1);
        B.from(two);
        B.takes("over()", 80, "latest(20)", 0, "latest(21)", 1, "latest(1458)", 1438, "latest(1459)", 1439, "latest(1460)", 1439);
        B.refuses("latest(19)", Dues.NONE);
        B.refuses("latest(0)", Dues.NONE);
        B.says(32, "nobody goes: OVER is START");
        B.from(weak("5", 0, 2, 50, 60));
        B.takes("latest(0)", 0, "latest(1)", 1, "latest(1438)", 1438, "latest(1439)", 1439, "latest(1440)", 1439);
        B.says(32, "whatever START is now");
        B.from(two, "start(1439)");
        B.takes("latest(20)", 0, "latest(1459)", 1439);
        B.refuses("latest(19)", Dues.NONE);
    }

    private static void best() {
        B.from(Worlds.RICH);
        B.says(33, "BEYOND: also from above to");
        B.takes("best(0, 0)", 0, "best(1439, 1439)", 1439, "count(0)", 200);
        B.takes("best(0, 1439)", 0);
        B.refuses("best(1, 0)", Dues.BEYOND);
        B.refuses("best(1439, 1438)", Dues.BEYOND);
        B.refuses("best(-1, 5)", Dues.BEYOND);
        B.refuses("best(-1, -1)", Dues.BEYOND);
        B.refuses("best(5, 1440)", Dues.BEYOND);
        B.refuses("best(1440, 1440)", Dues.BEYOND);
        B.refuses("best(MIN, MAX)", Dues.BEYOND);
        B.refuses("best(MAX, MIN)", Dues.BEYOND);
    }

    private static void bestOfSeveral() {
        B.says(33, "of several the earliest");
        B.from(tied(weak("99-h", 0, 1, 50), 0, 0));
        B.takes("best(0, 59)", 0, "best(0, 60)", 60, "best(0, 119)", 60, "best(1, 119)", 60, "best(61, 119)", 61);
        B.takes("best(0, 1439)", 1380, "best(0, 1379)", 1320, "best(1381, 1439)", 1381);
        B.says(33, "by the HOUR of a later PIECE, above 1439, too");
        B.from(tied(weak("99-h", 0, 1, 50), 0, 0), "piece(0, 0, 0, 1)");
        B.takes("best(0, 49)", 0, "best(0, 50)", 50, "best(0, 1439)", 1430, "best(1380, 1429)", 1380, "best(1431, 1439)", 1431);
        B.says(33, "no matter when: the first");
        B.from(tied(weak("5", 0, 1, 50), 0, 0));
        B.takes("best(0, 1439)", 0, "best(7, 1439)", 7, "best(1439, 1439)", 1439);
        B.from(Worlds.EMPTY);
        B.takes("best(0, 1439)", 0, "best(1438, 1439)", 1438);
    }

    private static void left() {
        B.says(34, "NONE: nobody is on a ROPE in THE LINE");
        B.from(Worlds.EMPTY);
        B.refuses("left()", Dues.NONE);
        B.from(Worlds.RICH, "clear()");
        B.refuses("left()", Dues.NONE);
        B.from(Worlds.RICH, "clear()", "join(2)");
        B.refuses("left()", Dues.NONE);
        B.from(Worlds.RICH, "left()", "space(0)", "clear()");
        B.refuses("left()", Dues.NONE);
        B.from(Worlds.RICH, "clear()", "join(2)", "join(3)");
        B.takes("left()", 6, "ofRope(3, 3)", 1);
    }

    private static void leftOfSeveral() {
        B.says(34, "of several the least");
        B.from(tied(tied(weak("5", 0, 2, 50, 60, 70, 80), 1, 3), 0, 2), "tie(1, 1)");
        B.takes("left()", 1);
        B.from(tied(weak("w-w", 0, 1, 50, 60, 70), 0, 2, 1, 0));
        B.takes("left()", 0);
        B.says(34, "the one without whom TOLL is least, alone on a ROPE");
        B.from(tied(tied(weak("w", 0, 2, 50, 60, 99), 0, 2), 1, 1));
        B.takes("left()", 2, "untie(2)", 0, "left()", 1);
        B.says(34, "off the ROPE, those behind one place ahead");
        B.from(tied(weak("w*!b", 0, 1, 99, 50, 60), 0, 0, 1, 2));
        B.takes("left()", 0);
        B.from(tied(weak("w*(b=2)", 0, 1, 50, 60, 30, 99), 0, 0, 1, 2, 3));
        B.takes("left()", 3);
    }

    private static void lead() {
        B.from(Worlds.RICH);
        B.says(35, "BEYOND");
        B.refuses("lead(-1)", Dues.BEYOND);
        B.refuses("lead(7)", Dues.BEYOND);
        B.refuses("lead(MAX)", Dues.BEYOND);
        B.says(35, "NONE: that one is on no ROPE in THE LINE");
        B.refuses("lead(5)", Dues.NONE);
        B.refuses("lead(6)", Dues.NONE);
        B.from(Worlds.RICH, "clear()");
        B.refuses("lead(0)", Dues.NONE);
    }

    private static void leadOfSeveral() {
        B.says(35, "of several the first");
        B.from(tied(weak("5", 0, 1, 50, 60, 70, 80, 90), 0, 4, 3, 2, 1, 0));
        B.takes("lead(0)", 0, "lead(4)", 0, "lead(2)", 0, "ofRope(0, 5)", 4);
        B.says(35, "the last place, the first place");
        B.from(tied(weak("w*(b<4)", 0, 1, 50, 60, 70, 80, 90), 0, 4, 3, 2, 1, 0));
        B.takes("lead(4)", 4, "lead(3)", 4, "lead(0)", 0);
        B.from(tied(weak("w*!b", 0, 1, 50, 60, 70, 80, 90), 0, 4, 3, 2, 1, 0));
        B.takes("lead(0)", 0, "lead(3)", 0, "lead(4)", 1);
        B.says(35, "alone");
        B.from(tied(weak("w", 0, 1, 50), 0, 0));
        B.takes("lead(0)", 0);
        B.says(35, "the others there staying in their order");
        B.from(tied(weak("w*(b=1)", 0, 1, 99, 40, 60), 0, 2, 1, 0));
        B.takes("lead(2)", 0, "lead(0)", 2, "lead(1)", 1);
    }

    private static void take() {
        B.from(Worlds.RICH);
        B.says(36, "what 0 BEST ORDER, 1 BEST SPACE, 2 BEST LINE. BEYOND.");
        B.refuses("take(-1, 0)", Dues.BEYOND);
        B.refuses("take(3, 0)", Dues.BEYOND);
        B.says(36, "the ROPE must be one");
        for (int what = 0; what <= 2; what++) {
            B.refuses("take(" + what + ", -1)", Dues.BEYOND);
            B.refuses("take(" + what + ", 4)", Dues.BEYOND);
        }
        B.takes("take(2, 3)", 1137, "ofRope(0, 4)", 0, "ofRope(1, 4)", 1, "ofRope(2, 4)", 2);
        B.says(36, "STATE: the ROPE isn't in THE LINE (0, 1)");
        B.refuses("take(0, 3)", Dues.STATE);
        B.refuses("take(1, 3)", Dues.STATE);
        B.says(36, "BEYOND. STATE.");
        B.refuses("take(3, 3)", Dues.BEYOND);
        B.refuses("take(MIN, MAX)", Dues.BEYOND);
        B.says(36, "an empty LINE, a ROPE without PEOPLE");
        B.from(Worlds.RICH, "clear()");
        B.takes("take(2, 0)", 0, "count(4)", 0);
        B.from(Worlds.RICH);
        B.takes("take(0, 2)", 1137, "ofRope(2, 3)", 0);
        B.takes("take(1, 2)", 1137, "ofRope(2, 1)", 1);
        B.from(Worlds.EMPTY);
        B.refuses("take(2, 0)", Dues.BEYOND);
    }

    private static void takeWhatIsBest() {
        B.says(36, "What of THE LINE was best comes to be: TOLL then");
        String[] two = tied(tied(weak("w*!b", 1, 2, 70, 60, 50), 0, 0, 1), 1, 2);
        B.from(two);
        B.takes("take(0, 0)", 120, "ofRope(0, 5)", 1, "ofRope(0, 6)", 0, "ofRope(0, 1)", 3, "ofRope(0, 4)", 0, "toll()", 120);
        B.takes("take(1, 0)", 0, "ofRope(0, 1)", 14, "ofRope(1, 1)", 3, "ofRope(0, 5)", 0, "ofRope(0, 4)", 0, "toll()", 0);
        B.takes("take(2, 0)", 50, "ofRope(0, 4)", 1, "ofRope(1, 4)", 0, "ofRope(0, 5)", 0, "ofRope(0, 1)", 3, "toll()", 50);
        B.says(36, "what is best already stays");
        B.from(two, "take(0, 0)", "take(1, 0)", "take(2, 1)");
        B.takes("take(0, 0)", 0, "ofRope(0, 5)", 1, "take(1, 0)", 0, "ofRope(0, 1)", 12, "take(2, 0)", 0, "ofRope(0, 4)", 0);
    }
}
