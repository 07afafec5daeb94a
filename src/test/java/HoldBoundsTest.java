/** The bounds that the document names for promises 15 to 18: what a rope holds, costs, and hauling out. */
public final class HoldBoundsTest {

    private static final Bounds B = new Bounds();

    public static void main(String[] args) {
        onNoRope("hold", 15, "");
        onNoRope("held", 16, ", 0");
        onNoRope("cost", 17, ", 0");
        onNoRope("haul", 18, ", 0");
        onTheLastRope();
        atNoPiece("held", 16);
        atNoPiece("cost", 17);
        atNoPiece("haul", 18);
        gripByPlaces();
        gripOfKinds();
        gripOfLong();
        gripOfGuides();
        alone();
        heldJust();
        pullIsCut();
        costOfKinds();
        haulWithin();
        haulByZero();
        B.end("HoldBoundsTest");
    }

    private static void onNoRope(String act, int promise, String piece) {
        B.from(Worlds.RICH);
        B.says(promise, act + ": NONE: that one is on no ROPE");
        B.refuses(act + "(5" + piece + ")", Dues.NONE);
        B.from(Worlds.RICH, "untie(1)");
        B.refuses(act + "(1" + piece + ")", Dues.NONE);
        B.from(Worlds.RICH);
        B.says(promise, act + ": BEYOND");
        B.refuses(act + "(-1" + piece + ")", Dues.BEYOND);
        B.refuses(act + "(7" + piece + ")", Dues.BEYOND);
        B.refuses(act + "(MIN" + piece + ")", Dues.BEYOND);
        B.refuses(act + "(MAX" + piece + ")", Dues.BEYOND);
    }

    private static void onTheLastRope() {
        B.from(Worlds.RICH);
        B.says(15, "on a ROPE: the first, another one, in THE LINE or not");
        B.takes("hold(0)", 600 + 40, "hold(4)", 90 + 50, "hold(6)", 0, "held(4, 0)", 1, "cost(4, 0)", 0, "haul(4, 0)", 75 * 10 / 92 + 1);
        B.from(Worlds.FULL, "untie(1)", "tie(5, 9)", "tie(5, 1)");
        B.says(15, "on a ROPE: the last of six, its last PEOPLE");
        B.takes("hold(9)", 300 + 80, "hold(1)", 86 + 80);
        B.says(16, "on a ROPE: the last of six, at the first PIECE and the last");
        B.takes("held(9, 0)", 1, "held(9, 7)", 1, "held(1, 0)", 0, "held(1, 7)", 0, "held(1, 2)", 1);
        B.says(17, "on a ROPE: the last of six, at the first PIECE and the last");
        B.takes("cost(9, 0)", 0, "cost(1, 0)", 2, "cost(1, 7)", 2, "cost(1, 2)", 0);
        B.says(18, "on a ROPE: the last of six, at the first PIECE and the last");
        B.takes("haul(9, 0)", 20 + 300, "haul(1, 0)", 20 + 86, "haul(1, 7)", 12 + 86);
    }

    private static void atNoPiece(String act, int promise) {
        B.from(Worlds.RICH);
        B.says(promise, act + " at a PIECE: BEYOND");
        B.refuses(act + "(0, -1)", Dues.BEYOND);
        B.refuses(act + "(0, 3)", Dues.BEYOND);
        B.refuses(act + "(0, MAX)", Dues.BEYOND);
        B.says(promise, act + ": BEYOND. NONE.");
        B.refuses(act + "(5, 3)", Dues.BEYOND);
        B.refuses(act + "(5, -1)", Dues.BEYOND);
        B.says(promise, act + " without PIECES: BEYOND");
        B.from(Worlds.EMPTY, "person(50, 5, 6, 0)", "rope(0, 1, 0)", "tie(0, 0)");
        B.refuses(act + "(0, 0)", Dues.BEYOND);
    }

    /** A rope of a kind with space 5 and knots 2; people of these strengths on it, the last a guide. */
    private static String[] roped(int kind, int... strengths) {
        String[] calls = new String[2 * strengths.length + 3];
        calls[0] = "rope(" + kind + ", 5, 2)";
        calls[1] = "piece(0, 0, 0, 1)";
        calls[2] = "join(0)";
        for (int i = 0; i < strengths.length; i++) {
            calls[2 * i + 3] = "person(100, " + strengths[i] + ", 10, " + (i == strengths.length - 1 ? 1 : 0) + ")";
            calls[2 * i + 4] = "tie(0, " + i + ")";
        }
        return calls;
    }

    private static void gripByPlaces() {
        B.says(15, "ROPE: STRENGTH by j (cut), j places from who falls");
        B.from(roped(0, 0, 99, 99, 99, 99));
        B.takes("hold(0)", 99 + 49 + 33 + 24);
        B.from(roped(0, 99, 99, 99, 99, 0));
        B.takes("hold(4)", 99 + 49 + 33 + 24, "hold(2)", 49 + 99 + 99);
        B.says(15, "Each GRIP is 0 at least: STRENGTH below j gives 0");
        B.from(roped(0, 9, 0, 0, 0, 3));
        B.takes("hold(0)", 0);
        B.from(roped(0, 9, 0, 0, 0, 4));
        B.takes("hold(0)", 1);
        B.says(15, "the most that a ROPE may hold");
        B.from(roped(0, 999, 999, 999, 999, 999));
        B.takes("hold(0)", 999 + 499 + 333 + 249, "hold(2)", 2 * (999 + 499));
    }

    private static void gripOfKinds() {
        B.says(15, "PAIR: as ROPE, and 5 times SPACE, of each other one");
        B.from(roped(1, 0, 0, 0));
        B.takes("hold(0)", 50, "set(0, 0, 1)", 5, "hold(0)", 10, "set(0, 0, 20)", 1, "hold(0)", 200, "set(0, 1, 9)", 2, "hold(0)", 200);
        B.says(15, "THREE: as ROPE, and 10 times KNOTS, of each other one");
        B.from(roped(2, 0, 0, 0));
        B.takes("hold(0)", 40, "set(0, 1, 0)", 2, "hold(0)", 0, "set(0, 1, 9)", 0, "hold(0)", 180, "set(0, 0, 20)", 5, "hold(0)", 180);
        B.says(15, "BARE: 0");
        B.from(roped(6, 999, 999, 999));
        B.takes("hold(0)", 0, "hold(1)", 0, "hold(2)", 0);
    }

    private static void gripOfLong() {
        B.says(15, "LONG: as THREE, less 2 times SPACE. Each GRIP is 0 at least.");
        B.from(roped(3, 7, 0), "set(0, 1, 1)");
        B.takes("set(0, 0, 4)", 5, "hold(0)", 2);
        B.takes("set(0, 0, 5)", 5, "hold(0)", 0, "hold(1)", 7);
        B.takes("set(0, 0, 6)", 5, "hold(0)", 0, "hold(1)", 5);
        B.takes("set(0, 0, 8)", 5, "hold(1)", 1);
        B.takes("set(0, 0, 9)", 5, "hold(1)", 0);
        B.says(15, "GRIPS of all others together: one below 0 takes nothing of another");
        B.from(roped(3, 0, 90, 0), "set(0, 1, 0)");
        B.takes("hold(0)", 80, "hold(2)", 80, "set(0, 0, 20)", 5, "hold(0)", 50, "hold(1)", 0);
    }

    private static void gripOfGuides() {
        B.says(15, "LED: as ROPE, twice that of a GUIDE");
        B.from(roped(4, 15, 0, 15));
        B.takes("hold(0)", 14, "hold(2)", 7, "hold(1)", 15 + 30);
        B.says(15, "SWEPT: as LED, and STRENGTH of who is last, if that is a GUIDE, once more");
        B.from(roped(5, 15, 0, 15));
        B.takes("hold(0)", 14 + 15, "hold(1)", 15 + 30 + 15, "hold(2)", 7);
        B.says(15, "SWEPT: a GUIDE who isn't last has no more than on LED");
        B.takes("swap(0, 2)", 1, "hold(1)", 30 + 15, "hold(0)", 14, "hold(2)", 7);
        B.says(15, "SWEPT: last is who is last then");
        B.takes("untie(1)", 0, "hold(0)", 45, "hold(2)", 15);
        B.takes("untie(2)", 0, "hold(0)", 0, "hold(1)", 15);
    }

    private static void alone() {
        for (int kind = 0; kind < 7; kind++) {
            B.says(15, "GRIPS of all others: alone there are none, on KIND " + kind);
            B.from(roped(kind, 999));
            B.takes("hold(0)", 0, "held(0, 0)", 0, "cost(0, 0)", 1);
        }
    }

    private static void heldJust() {
        B.says(16, "One is HELD at a PIECE, if HOLD is PULL or more");
        int[] strengths = {99, 100, 101};
        for (int strength : strengths) {
            B.from(roped(0, 0, strength));
            B.takes("held(0, 0)", strength >= 100 ? 1 : 0, "cost(0, 0)", strength >= 100 ? 0 : 2);
        }
    }

    private static void pullIsCut() {
        B.says(16, "PULL: WEIGHT times (10 and STEEP), by 10 (cut)");
        // Weights with steepness and the pull.
        int[][] pulls = {{33, 5, 49}, {33, -5, 16}, {39, 1, 42}, {31, -1, 27}, {300, 5, 450}, {30, -5, 15}, {30, 0, 30}};
        for (int[] p : pulls) {
            String[] world = {"person(" + p[0] + ", 0, 1, 0)", "rope(0, 1, 0)", "tie(0, 0)", "piece(" + p[1] + ", 0, 0, 1)"};
            B.from(world, "person(50, " + p[2] + ", 1, 0)", "tie(0, 1)");
            B.takes("held(0, 0)", 1);
            B.from(world, "person(50, " + (p[2] - 1) + ", 1, 0)", "tie(0, 1)");
            B.takes("held(0, 0)", 0);
        }
    }

    private static void costOfKinds() {
        for (int kind = 0; kind < 7; kind++) {
            B.says(17, "0, if HELD; else on a BARE ROPE 1, on others how many PEOPLE are on it: KIND " + kind);
            B.from(roped(kind, 0, 0, 0, 0, 0), "set(0, 0, 1)", "set(0, 1, 0)");
            B.takes("cost(0, 0)", kind == 6 ? 1 : 5, "untie(4)", 0, "cost(0, 0)", kind == 6 ? 1 : 4);
            B.from(roped(kind, 0, 999));
            B.takes("cost(0, 0)", kind == 6 ? 1 : 0);
        }
    }

    private static void haulWithin() {
        B.says(18, "HAUL in MINUTES, held within 0 to 999");
        String[] two = {"person(100, 50, 1, 0)", "person(90, 60, 1, 0)", "rope(0, 1, 0)", "tie(0, 0)", "tie(0, 1)", "piece(0, 0, 0, 8)"};
        String[] texts = {"998", "999", "1000", "9999", "1", "0", "0-1", "n", "p", "d"};
        int[] want = {998, 999, 999, 999, 1, 0, 0, 1, 60, 8};
        for (int i = 0; i < texts.length; i++) {
            B.from(two, "tape " + texts[i], "text(1)");
            B.takes("haul(0, 0)", want[i]);
        }
        B.says(18, "p all STRENGTH of the others on the ROPE, n how many these are: none");
        B.from(two, "untie(1)", "tape p+n+7", "text(1)");
        B.takes("haul(0, 0)", 7, "tie(0, 1)", 1, "haul(0, 0)", 68);
    }

    private static void haulByZero() {
        B.says(18, "without a TEXT as that of w*d/(p+1)+5 would");
        String[] one = {"person(200, 50, 1, 0)", "person(90, 0, 1, 0)", "rope(0, 1, 0)", "tie(0, 0)"};
        B.from(one, "piece(0, 0, 0, 4)");
        B.takes("haul(0, 0)", 805, "tie(0, 1)", 1, "haul(0, 0)", 805, "haul(1, 0)", 90 * 4 / 51 + 5);
        B.from(one, "piece(0, 0, 0, 5)");
        B.takes("haul(0, 0)", 999);
    }
}
