/** Promises 28 to 36: what would be best, and taking it. */
public final class BestTest {

    private static final Dues DUES = new Dues();

    public static void main(String[] args) {
        order();
        orderErrors();
        space();
        line();
        parts();
        partsOfMany();
        latest();
        best();
        left();
        lead();
        take();
        nothingChanges();
        DUES.end("BestTest");
    }

    private static void due(String call, int got, int want) {
        DUES.due(call, got, want);
    }

    /** People without strength, so that none is held, and one level piece; ropes of these kinds. */
    private static RopesAtDawn weak(String text, int[] weights, int... kinds) {
        RopesAtDawn x = new RopesAtDawn();
        Dues.text(x, 0, text);
        x.piece(0, 0, 0, 1);
        for (int w : weights) {
            x.person(w, 0, 10, 0);
        }
        for (int i = 0; i < kinds.length; i++) {
            x.rope(kinds[i], 1, 0);
            x.join(i);
        }
        return x;
    }

    private static void tie(RopesAtDawn x, int rope, int... people) {
        for (int p : people) {
            x.tie(rope, p);
        }
    }

    private static void orderIs(RopesAtDawn x, int toll, int... row) {
        due("28: toll then", x.order(0, -1), toll);
        for (int i = 0; i < row.length; i++) {
            due("28: order " + i, x.order(0, i), row[i]);
        }
        due("28: behind the last", x.order(0, row.length), Dues.NONE);
    }

    private static void order() {
        // Only who goes first risks anything: the weight.
        RopesAtDawn x = weak("w*!b", new int[] {100, 60, 90, 70}, 0);
        tie(x, 0, 2, 0, 1);
        due("28: toll now", x.toll(), 270);
        orderIs(x, 180, 1, 0, 2);
        x = weak("5", new int[] {100, 60, 90, 70}, 0);
        tie(x, 0, 3, 2, 0, 1);
        orderIs(x, 80, 0, 1, 2, 3);
        // Only who goes last of five risks nothing.
        x = weak("w*(b<4)", new int[] {50, 60, 70, 80, 90, 99}, 0);
        tie(x, 0, 5, 4, 1, 0, 2);
        orderIs(x, 5 * (50 + 60 + 70 + 90), 0, 1, 2, 4, 5);
        // Who is n-th of five ahead risks n times the weight: the last of all orders is best.
        x = weak("w*(5-b)", new int[] {90, 80, 70, 60, 50}, 0);
        tie(x, 0, 0, 1, 2, 3, 4);
        orderIs(x, 5 * (5 * 50 + 4 * 60 + 3 * 70 + 2 * 80 + 90), 4, 3, 2, 1, 0);
        x = weak("w", new int[] {50}, 0);
        orderIs(x, 0);
    }

    private static void orderErrors() {
        RopesAtDawn x = weak("w", new int[] {50}, 0);
        x.rope(0, 1, 0);
        due("28: rope 2", x.order(2, 0), Dues.BEYOND);
        due("28: rope -1", x.order(-1, 0), Dues.BEYOND);
        due("28: i -2", x.order(0, -2), Dues.BEYOND);
        due("28: i -2 ahead of no line", x.order(1, -2), Dues.BEYOND);
        due("28: not in the line", x.order(1, -1), Dues.STATE);
        due("28: not in the line ahead of none", x.order(1, 7), Dues.STATE);
    }

    private static void space() {
        // On a pair each holds 5 times the space: 60 hold 58, 65 hold 63.
        RopesAtDawn x = weak("10", new int[] {63, 58}, 1);
        tie(x, 0, 0, 1);
        due("29: least with toll 0", x.space(0), 13);
        x = weak("10", new int[] {300, 58}, 1);
        tie(x, 0, 0, 1);
        due("29: least that holds one", x.space(0), 12);
        x = weak("10", new int[] {300, 300}, 1);
        tie(x, 0, 0, 1);
        due("29: no matter", x.space(0), 1);
        x = weak("10", new int[] {100, 100}, 1);
        tie(x, 0, 0, 1);
        due("29: the most", x.space(0), 20);
        x = weak("10", new int[] {105, 105}, 1);
        tie(x, 0, 0, 1);
        due("29: 21 would hold them", x.space(0), 1);
        // On a long rope less space holds better: 90 less 2 times the space.
        x = weak("10", new int[] {80, 80}, 3);
        x.set(0, 0, 9);
        x.set(0, 1, 9);
        tie(x, 0, 0, 1);
        due("29: long", x.space(0), 1);
        x.rope(0, 1, 0);
        due("29: not in the line", x.space(1), Dues.STATE);
        due("29: rope 2", x.space(2), Dues.BEYOND);
        due("29: rope -1", x.space(-1), Dues.BEYOND);
        x.join(1);
        due("29: without people", x.space(1), 1);
    }

    private static void lineIs(RopesAtDawn x, int toll, int... row) {
        due("30: toll then", x.line(-1), toll);
        for (int i = 0; i < row.length; i++) {
            due("30: line " + i, x.line(i), row[i]);
        }
        due("30: behind the last", x.line(row.length), Dues.NONE);
    }

    private static void line() {
        RopesAtDawn x = weak("w*!b", new int[] {100, 60, 90}, 0, 0, 0, 0);
        tie(x, 0, 0);
        tie(x, 2, 1);
        tie(x, 3, 2);
        lineIs(x, 60, 1, 2, 0, 3);
        x = weak("7", new int[] {100, 60, 90}, 0, 0, 0);
        x.clear();
        x.join(2);
        x.join(0);
        tie(x, 0, 0);
        tie(x, 1, 1);
        tie(x, 2, 2);
        lineIs(x, 14, 0, 2);
        x = weak("w*(b=5)", new int[] {100, 60, 90, 50, 80, 70}, 0, 0, 0, 0, 0, 0);
        for (int i = 0; i < 6; i++) {
            tie(x, i, i);
        }
        lineIs(x, 50, 0, 1, 2, 4, 5, 3);
        x = weak("w*(6-b)", new int[] {100, 90, 80, 70, 60, 50}, 0, 0, 0, 0, 0, 0);
        for (int i = 0; i < 6; i++) {
            tie(x, i, i);
        }
        lineIs(x, 6 * 50 + 5 * 60 + 4 * 70 + 3 * 80 + 2 * 90 + 100, 5, 4, 3, 2, 1, 0);
        due("30: i -2", x.line(-2), Dues.BEYOND);
        lineIs(new RopesAtDawn(), 0);
    }

    private static void parts() {
        // On the bare rope one is lost at a time, on the other all: 2 and 1, or 3 and 0, is least.
        RopesAtDawn x = weak("10", new int[] {100, 60, 90}, 6, 0, 0);
        tie(x, 1, 2, 0, 1);
        due("31: bare first", x.parts(0, 1), 3);
        due("31: bare second", x.parts(1, 0), 0);
        due("31: without people", x.parts(0, 2), 0);
        x.untie(1);
        due("31: two of them", x.parts(0, 1), 1);
        due("31: one twice", x.parts(1, 1), Dues.BEYOND);
        due("31: rope 3", x.parts(0, 3), Dues.BEYOND);
        due("31: rope -1", x.parts(-1, 0), Dues.BEYOND);
        x.rope(0, 1, 0);
        due("31: the second not in the line", x.parts(0, 3), Dues.STATE);
        due("31: the first not in the line", x.parts(3, 0), Dues.STATE);
        due("31: one twice, not in the line", x.parts(3, 3), Dues.BEYOND);
    }

    private static void partsOfMany() {
        // Five at most on each: seven go as 5 on the bare rope and 2.
        RopesAtDawn x = weak("10", new int[] {100, 60, 90, 50, 80, 70, 40, 99}, 6, 0);
        tie(x, 0, 7, 6, 5);
        tie(x, 1, 4, 3, 2, 1);
        due("31: five at most", x.parts(0, 1), 2 + 4 + 8 + 16 + 32);
        due("31: five at most on the second", x.parts(1, 0), 2 + 4);
        // By numbers on the bare rope the light one, 1, is second of all; in the order of now 0 would be.
        x = weak("w*(b=1)", new int[] {100, 40, 90}, 0, 6);
        tie(x, 0, 1, 0);
        tie(x, 1, 2);
        due("31: by numbers", x.parts(0, 1), 0);
    }

    private static void latest() {
        RopesAtDawn x = weak("10", new int[] {100, 60}, 0, 0);
        due("32: nobody goes", x.latest(0), 0);
        due("32: nobody goes", x.latest(1438), 1438);
        due("32: nobody goes", x.latest(1440), 1439);
        tie(x, 0, 0);
        tie(x, 1, 1);
        x.piece(0, 0, 0, 1);
        // 10 minutes each over two pieces, one behind the other: 30 in all.
        due("32: 100 - 30", x.latest(100), 70);
        due("32: 0 just so", x.latest(30), 0);
        due("32: too early", x.latest(29), Dues.NONE);
        due("32: 1439 just so", x.latest(1469), 1439);
        due("32: 1438", x.latest(1468), 1438);
        due("32: latest", x.latest(9999), 1439);
        due("32: minute 10000", x.latest(10000), Dues.BEYOND);
        due("32: minute -1", x.latest(-1), Dues.BEYOND);
        x.start(1000);
        due("32: whatever the start is", x.latest(100), 70);
        due("32: the start stays", x.count(0), 1000);
    }

    private static void best() {
        RopesAtDawn x = weak("(h<5)*100+h", new int[] {100}, 0);
        tie(x, 0, 0);
        due("33: hour 5", x.best(0, 1439), 300);
        due("33: from within it", x.best(301, 400), 301);
        due("33: hours 0 to 4 rise", x.best(20, 299), 20);
        due("33: up to its first minute", x.best(250, 300), 300);
        due("33: not up to it", x.best(250, 299), 250);
        due("33: one minute", x.best(250, 250), 250);
        Dues.text(x, 0, "1000-h");
        x.piece(0, 0, 0, 1);
        due("33: the second piece turns an hour", x.best(0, 55), 50);
        due("33: both turned", x.best(0, 60), 60);
        due("33: from above to", x.best(5, 4), Dues.BEYOND);
        due("33: from -1", x.best(-1, 4), Dues.BEYOND);
        due("33: to 1440", x.best(0, 1440), Dues.BEYOND);
        due("33: the last", x.best(1439, 1439), 1439);
        due("33: the start stays", x.count(0), 60);
    }

    private static void left() {
        due("34: nobody", new RopesAtDawn().left(), Dues.NONE);
        RopesAtDawn x = weak("w", new int[] {100, 60, 90, 200}, 0, 0);
        due("34: nobody on a rope", x.left(), Dues.NONE);
        x.rope(0, 1, 0);
        tie(x, 2, 3);
        due("34: nobody in the line", x.left(), Dues.NONE);
        tie(x, 0, 0);
        tie(x, 1, 1, 2);
        // 300 without 0, 190 without 1, 160 without 2.
        due("34: the one on a rope of two", x.left(), 2);
        x = weak("5", new int[] {100, 60, 90}, 0);
        tie(x, 0, 2, 1, 0);
        due("34: of several the least", x.left(), 0);
        // Without 1 those behind come ahead: then who was third risks what the second did.
        x = weak("w*(b=1)", new int[] {100, 60, 90}, 0);
        tie(x, 0, 0, 1, 2);
        due("34: those behind come ahead", x.left(), 2);
    }

    private static void lead() {
        RopesAtDawn x = weak("w*!b", new int[] {100, 60, 90, 70}, 0);
        tie(x, 0, 0, 1, 2);
        due("35: of several the first", x.lead(0), 1);
        due("35: ahead", x.lead(1), 0);
        due("35: ahead of the heaviest", x.lead(2), 0);
        due("35: on no rope", x.lead(3), Dues.NONE);
        due("35: no such one", x.lead(4), Dues.BEYOND);
        due("35: no such one", x.lead(-1), Dues.BEYOND);
        Dues.text(x, 0, "w*(b<2)");
        due("35: last", x.lead(0), 2);
        due("35: others stay in their order", x.lead(1), 0);
        x.clear();
        due("35: not in the line", x.lead(0), Dues.NONE);
    }

    private static void take() {
        RopesAtDawn x = weak("w*!b", new int[] {100, 60, 90}, 1, 0);
        tie(x, 0, 0, 1);
        tie(x, 1, 2);
        due("36: order", x.take(0, 0), 120);
        due("36: order then", x.ofRope(0, 5), 1);
        due("36: order then", x.ofRope(0, 6), 0);
        due("36: line", x.take(2, 1), 90);
        due("36: line then", x.ofRope(1, 4), 0);
        due("36: line then", x.ofRope(0, 4), 1);
        Dues.text(x, 0, "10");
        due("36: space", x.take(1, 0), 10);
        due("36: space then", x.ofRope(0, 1), 20);
        due("36: that is the toll", x.toll(), 10);
        x.rope(0, 1, 0);
        due("36: not in the line", x.take(0, 2), Dues.STATE);
        due("36: not in the line", x.take(1, 2), Dues.STATE);
        due("36: the line, by any rope", x.take(2, 2), 10);
        due("36: no such rope", x.take(2, 3), Dues.BEYOND);
        due("36: rope -1", x.take(0, -1), Dues.BEYOND);
        due("36: what 3", x.take(3, 0), Dues.BEYOND);
        due("36: what -1", x.take(-1, 0), Dues.BEYOND);
    }

    private static void nothingChanges() {
        RopesAtDawn x = weak("w*!b", new int[] {100, 60, 90, 70}, 1, 0);
        tie(x, 0, 0, 1);
        tie(x, 1, 3, 2);
        x.set(0, 0, 7);
        x.order(0, 0);
        x.space(0);
        x.line(0);
        x.parts(0, 1);
        x.latest(900);
        x.best(0, 900);
        x.left();
        x.lead(2);
        due("28: order stays", x.ofRope(0, 5) * 10 + x.ofRope(0, 6), 1);
        due("28: order stays", x.ofRope(1, 5) * 10 + x.ofRope(1, 6), 32);
        due("29: space stays", x.ofRope(0, 1), 7);
        due("30: line stays", x.ofRope(0, 4) * 10 + x.ofRope(1, 4), 1);
        due("33: start stays", x.count(0), 60);
        due("37: no draw", x.count(8), 1);
    }
}
