/** The bounds that the document names for promises 8 to 14: ropes and who is on them. */
public final class RopesBoundsTest {

    private static final Bounds B = new Bounds();

    public static void main(String[] args) {
        rope();
        roomForRopes();
        tie();
        roomOnRopes();
        untie();
        ofRope();
        as();
        set();
        swap();
        B.end("RopesBoundsTest");
    }

    private static void rope() {
        B.from(Worlds.RICH);
        B.says(8, "KINDS 0 ROPE; 1 PAIR, 2 THREE, 4 LED, 6 BARE; 3 LONG; 5 SWEPT");
        for (int kind = 0; kind <= 6; kind++) {
            B.takes("rope(" + kind + ", 7, 8)", 4, "ofRope(4, 0)", kind, "ofRope(4, 1)", 7, "ofRope(4, 2)", 8);
        }
        B.refuses("rope(-1, 7, 8)", Dues.BEYOND);
        B.refuses("rope(7, 7, 8)", Dues.BEYOND);
        B.refuses("rope(MAX, 7, 8)", Dues.BEYOND);
        B.says(8, "a SPACE (1 to 20)");
        B.takes("rope(0, 1, 8)", 4, "ofRope(4, 1)", 1);
        B.takes("rope(0, 20, 8)", 4, "ofRope(4, 1)", 20);
        B.refuses("rope(0, 0, 8)", Dues.BEYOND);
        B.refuses("rope(0, 21, 8)", Dues.BEYOND);
        B.says(8, "KNOTS (0 to 9)");
        B.takes("rope(0, 7, 0)", 4, "ofRope(4, 2)", 0);
        B.takes("rope(0, 7, 9)", 4, "ofRope(4, 2)", 9);
        B.refuses("rope(0, 7, -1)", Dues.BEYOND);
        B.refuses("rope(0, 7, 10)", Dues.BEYOND);
        B.says(8, "A ROPE without PEOPLE");
        B.takes("rope(0, 7, 8)", 4, "ofRope(4, 3)", 0, "ofRope(4, 4)", -1, "ofRope(4, 5)", -1, "ofRope(4, 9)", -1);
    }

    private static void roomForRopes() {
        B.says(8, "ROPES 0, 1, .. (at most 6)");
        B.from(Worlds.RICH, "rope(0, 1, 0)");
        B.takes("rope(2, 3, 4)", 5, "count(3)", 6, "ofRope(5, 0)", 2, "rope(2, 3, 4)", Dues.FULL);
        B.from(Worlds.RICH, "rope(0, 1, 0)", "rope(0, 1, 0)");
        B.refuses("rope(2, 3, 4)", Dues.FULL);
        B.from(Worlds.FULL);
        B.refuses("rope(2, 3, 4)", Dues.FULL);
        B.says(8, "BEYOND. FULL.");
        B.refuses("rope(7, 3, 4)", Dues.BEYOND);
        B.refuses("rope(2, 21, 4)", Dues.BEYOND);
        B.refuses("rope(2, 3, 10)", Dues.BEYOND);
    }

    private static void tie() {
        B.from(Worlds.RICH);
        B.says(9, "One comes last on a ROPE: the place. BEYOND.");
        B.takes("tie(0, 5)", 3, "ofRope(0, 8)", 5, "ofRope(0, 3)", 4);
        B.takes("tie(3, 5)", 1, "ofRope(3, 6)", 5);
        B.takes("tie(2, 5)", 0, "ofRope(2, 5)", 5);
        B.refuses("tie(-1, 5)", Dues.BEYOND);
        B.refuses("tie(4, 5)", Dues.BEYOND);
        B.refuses("tie(0, -1)", Dues.BEYOND);
        B.refuses("tie(0, 7)", Dues.BEYOND);
        B.refuses("tie(MIN, MAX)", Dues.BEYOND);
        B.says(9, "STATE: that one is on a ROPE (each on one ROPE at most)");
        B.refuses("tie(0, 1)", Dues.STATE);
        B.refuses("tie(0, 4)", Dues.STATE);
        B.refuses("tie(2, 6)", Dues.STATE);
        B.says(9, "BEYOND. STATE.");
        B.refuses("tie(4, 1)", Dues.BEYOND);
        B.refuses("tie(-1, 6)", Dues.BEYOND);
    }

    private static void roomOnRopes() {
        B.says(9, "FULL: 5");
        B.from(Worlds.FULL);
        B.takes("tie(1, 9)", 4, "ofRope(1, 3)", 5, "ofRope(1, 9)", 9);
        B.refuses("tie(0, 9)", Dues.FULL);
        B.from(Worlds.RICH, "untie(3)", "untie(4)", "tie(0, 4)", "tie(0, 3)");
        B.refuses("tie(0, 5)", Dues.FULL);
        B.from(Worlds.FULL);
        B.says(9, "STATE: that one is on a ROPE. FULL: 5.");
        B.refuses("tie(0, 2)", Dues.STATE);
        B.refuses("tie(0, 7)", Dues.STATE);
        B.says(9, "BEYOND ahead of FULL");
        B.refuses("tie(0, 10)", Dues.BEYOND);
    }

    private static void untie() {
        B.says(10, "those behind one place ahead");
        B.from(Worlds.FULL);
        B.takes("untie(0)", 0, "ofRope(0, 5)", 1, "ofRope(0, 8)", 4, "ofRope(0, 9)", -1, "ofPerson(4, 5)", 3, "ofPerson(0, 5)", -1);
        B.takes("untie(3)", 0, "ofRope(0, 7)", 2, "ofRope(0, 8)", 4, "ofRope(0, 3)", 4, "ofPerson(3, 4)", -1);
        B.takes("untie(4)", 0, "ofRope(0, 8)", 3, "ofRope(0, 9)", -1);
        B.from(Worlds.RICH);
        B.takes("untie(6)", 3, "ofRope(3, 3)", 0, "ofRope(3, 5)", -1, "untie(6)", Dues.NONE);
        B.says(10, "BEYOND");
        B.refuses("untie(-1)", Dues.BEYOND);
        B.refuses("untie(7)", Dues.BEYOND);
        B.refuses("untie(MIN)", Dues.BEYOND);
        B.says(10, "NONE: that one is on none");
        B.refuses("untie(5)", Dues.NONE);
        B.from(Worlds.RICH, "untie(1)");
        B.refuses("untie(1)", Dues.NONE);
    }

    private static void ofRope() {
        B.from(Worlds.RICH);
        B.says(11, "Of a ROPE: 0 KIND .. 5 + i who is i-th (i 0 to 4). BEYOND.");
        B.takes("ofRope(0, 0)", 5, "ofRope(0, 5)", 1, "ofRope(0, 9)", -1);
        B.takes("ofRope(3, 0)", 3);
        B.refuses("ofRope(0, -1)", Dues.BEYOND);
        B.refuses("ofRope(0, 10)", Dues.BEYOND);
        B.refuses("ofRope(-1, 0)", Dues.BEYOND);
        B.refuses("ofRope(4, 0)", Dues.BEYOND);
        B.refuses("ofRope(MAX, MAX)", Dues.BEYOND);
        B.says(11, "4 its place in THE LINE (-1)");
        B.takes("ofRope(0, 4)", 0, "ofRope(2, 4)", 1, "ofRope(1, 4)", 2, "ofRope(3, 4)", -1);
        B.says(11, "who is i-th (-1: nobody)");
        B.takes("ofRope(0, 7)", 2, "ofRope(0, 8)", -1, "ofRope(2, 5)", -1, "ofRope(3, 5)", 6, "ofRope(3, 6)", -1);
        B.from(Worlds.FULL);
        B.takes("ofRope(0, 9)", 4, "ofRope(1, 8)", 8, "ofRope(1, 9)", -1);
    }

    private static void as() {
        B.says(12, "KIND: it isn't of that KIND, nor of one under it");
        // Rows: a rope's kind; columns: the kind asked for.
        String[] under = {"1000000", "1100000", "1010000", "1011000", "1000100", "1000110", "1000001"};
        for (int kind = 0; kind < 7; kind++) {
            B.from(Worlds.RICH, "rope(" + kind + ", 7, 8)");
            for (int asked = 0; asked < 7; asked++) {
                if (under[kind].charAt(asked) == '1') {
                    B.takes("as(4, " + asked + ")", 8);
                } else {
                    B.refuses("as(4, " + asked + ")", Dues.KIND);
                }
            }
        }
        B.says(12, "BEYOND");
        B.refuses("as(4, -1)", Dues.BEYOND);
        B.refuses("as(4, 7)", Dues.BEYOND);
        B.refuses("as(-1, 0)", Dues.BEYOND);
        B.refuses("as(5, 0)", Dues.BEYOND);
        B.takes("as(0, 0)", 2);
        B.says(12, "BEYOND. KIND.");
        B.refuses("as(5, 1)", Dues.BEYOND);
        B.refuses("as(MIN, MIN)", Dues.BEYOND);
    }

    private static void set() {
        B.from(Worlds.RICH);
        B.says(13, "SPACE (what 0) of a ROPE becomes v (1 to 20)");
        B.takes("set(0, 0, 1)", 5, "ofRope(0, 1)", 1, "ofRope(0, 2)", 2);
        B.takes("set(0, 0, 20)", 5, "ofRope(0, 1)", 20, "ofRope(0, 2)", 2);
        B.refuses("set(0, 0, 0)", Dues.BEYOND);
        B.refuses("set(0, 0, 21)", Dues.BEYOND);
        B.says(13, "KNOTS (1) of a ROPE becomes v (0 to 9)");
        B.takes("set(3, 1, 0)", 9, "ofRope(3, 2)", 0, "ofRope(3, 1)", 4);
        B.takes("set(0, 1, 9)", 2, "ofRope(0, 2)", 9, "ofRope(0, 1)", 5);
        B.refuses("set(0, 1, -1)", Dues.BEYOND);
        B.refuses("set(0, 1, 10)", Dues.BEYOND);
        B.says(13, "BEYOND");
        B.refuses("set(0, -1, 5)", Dues.BEYOND);
        B.refuses("set(0, 2, 5)", Dues.BEYOND);
        B.refuses("set(-1, 0, 5)", Dues.BEYOND);
        B.refuses("set(4, 0, 5)", Dues.BEYOND);
        B.refuses("set(0, 0, MIN)", Dues.BEYOND);
        B.refuses("set(MAX, MAX, MAX)", Dues.BEYOND);
    }

    private static void swap() {
        B.from(Worlds.RICH);
        B.says(14, "Two on ROPES (or one) change places");
        B.takes("swap(0, 1)", 1, "ofRope(0, 5)", 0, "ofRope(0, 6)", 1, "ofRope(0, 7)", 2);
        B.takes("swap(2, 6)", 1, "ofRope(0, 7)", 6, "ofRope(3, 5)", 2, "ofPerson(2, 4)", 3);
        B.says(14, "BEYOND: also one twice");
        B.refuses("swap(1, 1)", Dues.BEYOND);
        B.refuses("swap(-1, 1)", Dues.BEYOND);
        B.refuses("swap(7, 1)", Dues.BEYOND);
        B.refuses("swap(1, -1)", Dues.BEYOND);
        B.refuses("swap(1, 7)", Dues.BEYOND);
        B.refuses("swap(MAX, MAX)", Dues.BEYOND);
        B.says(14, "NONE: one is on no ROPE");
        B.refuses("swap(5, 1)", Dues.NONE);
        B.refuses("swap(1, 5)", Dues.NONE);
        B.from(Worlds.RICH, "untie(6)");
        B.refuses("swap(5, 6)", Dues.NONE);
        B.says(14, "BEYOND. NONE.");
        B.refuses("swap(5, 5)", Dues.BEYOND);
        B.refuses("swap(5, 7)", Dues.BEYOND);
        B.refuses("swap(-1, 5)", Dues.BEYOND);
    }
}
