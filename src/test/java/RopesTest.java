/** Promises 8 to 18: ropes, who is on them, what they hold. */
public final class RopesTest {

    private static final Dues DUES = new Dues();

    public static void main(String[] args) {
        rope();
        tieAndUntie();
        ofRope();
        as();
        set();
        swap();
        holdByKind();
        holdOfLed();
        holdAlone();
        held();
        cost();
        haul();
        DUES.end("RopesTest");
    }

    private static void due(String call, int got, int want) {
        DUES.due(call, got, want);
    }

    private static void rope() {
        RopesAtDawn x = new RopesAtDawn();
        due("8: least", x.rope(0, 1, 0), 0);
        due("8: most", x.rope(6, 20, 9), 1);
        int[][] wrong = {{-1, 1, 0}, {7, 1, 0}, {0, 0, 0}, {0, 21, 0}, {0, 1, -1}, {0, 1, 10}};
        for (int[] w : wrong) {
            due("8: rope beyond", x.rope(w[0], w[1], w[2]), Dues.BEYOND);
        }
        for (int i = 2; i < 6; i++) {
            due("8: rope", x.rope(i, 2, 3), i);
        }
        due("8: a seventh", x.rope(0, 1, 0), Dues.FULL);
        due("8: a seventh beyond", x.rope(0, 0, 0), Dues.BEYOND);
        due("8: without people", x.ofRope(5, 3), 0);
    }

    private static RopesAtDawn withPeople(int n) {
        RopesAtDawn x = new RopesAtDawn();
        for (int i = 0; i < n; i++) {
            x.person(80 + i, 100, 10, 0);
        }
        return x;
    }

    private static void tieAndUntie() {
        RopesAtDawn x = withPeople(7);
        due("9: no rope", x.tie(0, 0), Dues.BEYOND);
        x.rope(0, 1, 0);
        x.rope(1, 1, 0);
        due("9: rope -1", x.tie(-1, 0), Dues.BEYOND);
        due("9: person 7", x.tie(0, 7), Dues.BEYOND);
        due("9: person -1", x.tie(0, -1), Dues.BEYOND);
        for (int i = 0; i < 5; i++) {
            due("9: tie", x.tie(0, i), i);
        }
        due("9: on a rope ahead of a full one", x.tie(0, 3), Dues.STATE);
        due("9: on another rope", x.tie(1, 3), Dues.STATE);
        due("9: full", x.tie(0, 5), Dues.FULL);
        due("9: he stays off", x.ofPerson(5, 4), -1);
        due("10: untie", x.untie(1), 0);
        due("10: those behind come ahead", x.ofPerson(2, 5), 1);
        due("10: the last, too", x.ofPerson(4, 5), 3);
        due("10: those ahead stay", x.ofPerson(0, 5), 0);
        due("10: off", x.ofPerson(1, 4), -1);
        due("10: twice", x.untie(1), Dues.NONE);
        due("10: never on", x.untie(6), Dues.NONE);
        due("10: no such one", x.untie(7), Dues.BEYOND);
        due("10: no such one", x.untie(-1), Dues.BEYOND);
        due("9: last again", x.tie(0, 1), 4);
        due("10: the last", x.untie(1), 0);
        due("10: how many", x.ofRope(0, 3), 4);
    }

    private static void ofRope() {
        RopesAtDawn x = withPeople(3);
        x.rope(2, 7, 4);
        x.rope(3, 8, 5);
        x.tie(1, 2);
        x.tie(1, 0);
        due("11: not in the line", x.ofRope(1, 4), -1);
        x.join(0);
        x.join(1);
        int[] want = {3, 8, 5, 2, 1, 2, 0, -1, -1, -1};
        for (int what = 0; what < want.length; what++) {
            due("11: ofRope(1, " + what + ")", x.ofRope(1, what), want[what]);
        }
        due("11: first of an empty one", x.ofRope(0, 5), -1);
        due("11: what 10", x.ofRope(1, 10), Dues.BEYOND);
        due("11: what -1", x.ofRope(1, -1), Dues.BEYOND);
        due("11: rope 2", x.ofRope(2, 0), Dues.BEYOND);
        due("11: rope -1", x.ofRope(-1, 0), Dues.BEYOND);
    }

    private static void as() {
        // Rows: a rope's kind; columns: the kind asked for.
        String[] under = {"1000000", "1100000", "1010000", "1011000", "1000100", "1000110", "1000001"};
        for (int kind = 0; kind < 7; kind++) {
            RopesAtDawn x = new RopesAtDawn();
            x.rope(kind, 1, 7);
            for (int asked = 0; asked < 7; asked++) {
                due("12: " + kind + " as " + asked, x.as(0, asked), under[kind].charAt(asked) == '1' ? 7 : Dues.KIND);
            }
            due("12: kind 7", x.as(0, 7), Dues.BEYOND);
            due("12: kind -1", x.as(0, -1), Dues.BEYOND);
            due("12: rope 1", x.as(1, 0), Dues.BEYOND);
            due("12: rope -1", x.as(-1, 0), Dues.BEYOND);
        }
    }

    private static void set() {
        RopesAtDawn x = new RopesAtDawn();
        x.rope(0, 5, 6);
        due("13: space", x.set(0, 0, 20), 5);
        due("13: space", x.set(0, 0, 1), 20);
        due("13: knots", x.set(0, 1, 0), 6);
        due("13: knots", x.set(0, 1, 9), 0);
        due("13: space 0", x.set(0, 0, 0), Dues.BEYOND);
        due("13: space 21", x.set(0, 0, 21), Dues.BEYOND);
        due("13: knots -1", x.set(0, 1, -1), Dues.BEYOND);
        due("13: knots 10", x.set(0, 1, 10), Dues.BEYOND);
        due("13: what 2", x.set(0, 2, 1), Dues.BEYOND);
        due("13: what -1", x.set(0, -1, 1), Dues.BEYOND);
        due("13: rope 1", x.set(1, 0, 1), Dues.BEYOND);
        due("13: rope -1", x.set(-1, 0, 1), Dues.BEYOND);
        due("13: space then", x.ofRope(0, 1), 1);
        due("13: knots then", x.ofRope(0, 2), 9);
        due("13: kind stays", x.ofRope(0, 0), 0);
    }

    private static void swap() {
        RopesAtDawn x = withPeople(5);
        x.rope(0, 1, 0);
        x.rope(0, 1, 0);
        x.tie(0, 0);
        x.tie(0, 1);
        x.tie(1, 2);
        x.tie(1, 3);
        due("14: over ropes", x.swap(0, 3), 1);
        due("14: there", x.ofRope(0, 5), 3);
        due("14: and there", x.ofRope(1, 6), 0);
        due("14: on one rope", x.swap(3, 1), 1);
        due("14: first", x.ofRope(0, 5), 1);
        due("14: second", x.ofRope(0, 6), 3);
        due("14: one twice", x.swap(1, 1), Dues.BEYOND);
        due("14: one twice, on no rope", x.swap(4, 4), Dues.BEYOND);
        due("14: no such one", x.swap(0, 5), Dues.BEYOND);
        due("14: no such one", x.swap(-1, 0), Dues.BEYOND);
        due("14: on no rope", x.swap(0, 4), Dues.NONE);
        due("14: on no rope", x.swap(4, 0), Dues.NONE);
        due("14: it stays", x.ofRope(1, 6), 0);
    }

    /** Four in a row with strengths 101, 50, 35, 7 on a rope with space 6 and knots 2. */
    private static RopesAtDawn four(int kind, int guides) {
        RopesAtDawn x = new RopesAtDawn();
        int[] strengths = {101, 50, 35, 7};
        x.rope(kind, 6, 2);
        for (int i = 0; i < 4; i++) {
            x.person(100, strengths[i], 10, guides >> i & 1);
            x.tie(0, i);
        }
        return x;
    }

    private static void holds(String kind, RopesAtDawn x, int... want) {
        for (int i = 0; i < want.length; i++) {
            due("15: " + kind + " holds " + i, x.hold(i), want[i]);
        }
    }

    private static void holdByKind() {
        // Of 0: 50 + 35/2 + 7/3 = 50 + 17 + 2. Of 1: 101 + 35 + 7/2. Of 2: 101/2 + 50 + 7. Of 3: 101/3 + 50/2 + 35.
        holds("rope", four(0, 15), 69, 139, 107, 93);
        holds("pair", four(1, 15), 69 + 90, 139 + 90, 107 + 90, 93 + 90);
        holds("three", four(2, 15), 69 + 60, 139 + 60, 107 + 60, 93 + 60);
        // Long gives 8 more each at space 6; at space 20 it takes 20 of each, but none goes below 0.
        holds("long", four(3, 15), 69 + 24, 139 + 24, 107 + 24, 93 + 24);
        RopesAtDawn x = four(3, 0);
        x.set(0, 0, 20);
        holds("long with space 20", x, 30, 81 + 15, 30 + 30, 13 + 5 + 15);
        holds("bare", four(6, 15), 0, 0, 0, 0);
    }

    private static void holdOfLed() {
        // Guides are 0 and 3: twice 101 by j, twice 7 by j.
        holds("led", four(4, 9), 50 + 17 + 4, 202 + 35 + 6, 100 + 50 + 14, 66 + 25 + 35);
        holds("led without guides", four(4, 0), 69, 139, 107, 93);
        holds("swept", four(5, 9), 50 + 17 + 4 + 7, 202 + 35 + 6 + 7, 100 + 50 + 14 + 7, 66 + 25 + 35);
        holds("swept, the last no guide", four(5, 1), 50 + 17 + 2, 202 + 35 + 3, 100 + 50 + 7, 66 + 25 + 35);
    }

    private static void holdAlone() {
        for (int kind = 0; kind < 7; kind++) {
            RopesAtDawn x = new RopesAtDawn();
            x.rope(kind, 20, 9);
            x.person(100, 999, 10, 1);
            due("15: on no rope", x.hold(0), Dues.NONE);
            x.tie(0, 0);
            due("15: alone on kind " + kind, x.hold(0), 0);
            due("15: no such one", x.hold(1), Dues.BEYOND);
            due("15: no such one", x.hold(-1), Dues.BEYOND);
        }
    }

    private static void held() {
        RopesAtDawn x = new RopesAtDawn();
        x.rope(0, 1, 0);
        x.person(97, 0, 10, 0);
        x.person(60, 97, 10, 0);
        x.person(60, 0, 10, 0);
        x.tie(0, 0);
        x.tie(0, 1);
        x.piece(0, 0, 0, 1);
        x.piece(1, 0, 0, 1);
        x.piece(-5, 0, 0, 1);
        due("16: just held", x.held(0, 0), 1);
        due("16: steeper, 97 * 11 / 10 is 106", x.held(0, 1), 0);
        due("16: nobody pulls for the other", x.held(1, 2), 0);
        x.untie(1);
        x.person(60, 105, 10, 0);
        x.person(60, 106, 10, 0);
        x.tie(0, 3);
        due("16: one short", x.held(0, 1), 0);
        x.untie(3);
        x.tie(0, 4);
        due("16: cut 106.7 is held by 106", x.held(0, 1), 1);
        due("16: half at steep -5 is 48", x.held(0, 2), 1);
        due("16: on no rope", x.held(2, 0), Dues.NONE);
        due("16: no such one", x.held(5, 0), Dues.BEYOND);
        due("16: no such one", x.held(-1, 0), Dues.BEYOND);
        due("16: no such piece ahead of no rope", x.held(2, 3), Dues.BEYOND);
        due("16: no such piece", x.held(0, -1), Dues.BEYOND);
    }

    private static void cost() {
        for (int kind = 0; kind < 7; kind++) {
            RopesAtDawn x = new RopesAtDawn();
            x.rope(kind, 5, 1);
            x.piece(0, 0, 0, 1);
            x.person(200, 0, 10, 0);
            x.person(60, 20, 10, 0);
            x.person(60, 20, 10, 0);
            due("17: on no rope", x.cost(0, 0), Dues.NONE);
            for (int i = 0; i < 3; i++) {
                x.tie(0, i);
            }
            due("17: not held on kind " + kind, x.cost(0, 0), kind == 6 ? 1 : 3);
            x.untie(2);
            due("17: two on it", x.cost(0, 0), kind == 6 ? 1 : 2);
            x.person(60, 200, 10, 0);
            x.tie(0, 3);
            x.swap(1, 3);
            due("17: held on kind " + kind, x.cost(0, 0), kind == 6 ? 1 : 0);
            due("17: no such one", x.cost(4, 0), Dues.BEYOND);
            due("17: no such piece", x.cost(0, 1), Dues.BEYOND);
            due("17: no such piece", x.cost(0, -1), Dues.BEYOND);
        }
    }

    private static void haul() {
        RopesAtDawn x = new RopesAtDawn();
        x.rope(6, 5, 1);
        x.piece(0, 0, 0, 20);
        x.piece(0, 0, 0, 40);
        x.person(100, 500, 10, 0);
        x.person(60, 150, 10, 0);
        x.person(60, 49, 10, 1);
        due("18: on no rope", x.haul(0, 0), Dues.NONE);
        x.tie(0, 0);
        due("18: alone, 2000 + 5 held within 999", x.haul(0, 0), 999);
        x.tie(0, 1);
        x.tie(0, 2);
        due("18: 2000 / 200 + 5", x.haul(0, 0), 15);
        due("18: 4000 / 200 + 5", x.haul(0, 1), 25);
        due("18: 60 * 40 / 550 + 5", x.haul(1, 1), 9);
        due("18: no such one", x.haul(3, 0), Dues.BEYOND);
        due("18: no such piece", x.haul(0, 2), Dues.BEYOND);
        due("18: no such piece", x.haul(0, -1), Dues.BEYOND);
        Dues.text(x, 1, "w+d*2-p+n*100");
        due("18: by its text", x.haul(0, 1), 100 + 80 - 199 + 200);
        Dues.text(x, 1, "0-p");
        due("18: 0 at least", x.haul(0, 1), 0);
    }
}
