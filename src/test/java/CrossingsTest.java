/** Promises 22 to 27: the line, when each rope is where, risks, what is likely lost. */
public final class CrossingsTest {

    private static final Dues DUES = new Dues();

    public static void main(String[] args) {
        joinAndClear();
        when();
        waiting();
        risk();
        over();
        toll();
        tollOfHeld();
        DUES.end("CrossingsTest");
    }

    private static void due(String call, int got, int want) {
        DUES.due(call, got, want);
    }

    /** Rope 1 with person 2, rope 2 without people, rope 0 with persons 0 and 1 go over two pieces. */
    private static RopesAtDawn morning() {
        RopesAtDawn x = new RopesAtDawn();
        x.person(100, 0, 30, 0);
        x.person(80, 0, 20, 0);
        x.person(60, 0, 10, 0);
        x.person(60, 0, 10, 0);
        x.piece(0, 50, 2, 1);
        x.piece(0, 0, 10, 1);
        for (int i = 0; i < 4; i++) {
            x.rope(0, 1, 0);
        }
        x.tie(0, 0);
        x.tie(0, 1);
        x.tie(1, 2);
        x.tie(3, 3);
        x.join(1);
        x.join(2);
        x.join(0);
        return x;
    }

    private static void joinAndClear() {
        RopesAtDawn x = new RopesAtDawn();
        due("22: no rope", x.join(0), Dues.BEYOND);
        for (int i = 0; i < 6; i++) {
            x.rope(0, 1, 0);
        }
        due("23: nothing to clear", x.clear(), 0);
        for (int i = 0; i < 6; i++) {
            due("22: place", x.join(5 - i), i);
        }
        due("22: twice", x.join(3), Dues.STATE);
        due("22: rope -1", x.join(-1), Dues.BEYOND);
        due("22: rope 6", x.join(6), Dues.BEYOND);
        due("22: its place", x.ofRope(5, 4), 0);
        due("23: clear", x.clear(), 6);
        due("23: none in it", x.count(4), 0);
        due("23: its place", x.ofRope(5, 4), -1);
        due("22: again", x.join(3), 0);
    }

    private static void when() {
        RopesAtDawn x = morning();
        int[][] want = {{1, 0, 60, 70}, {1, 1, 70, 80}, {0, 0, 70, 100}, {0, 1, 100, 130}};
        for (int[] w : want) {
            due("24: rope " + w[0] + " comes to " + w[1], x.when(w[0], w[1], 0), w[2]);
            due("24: rope " + w[0] + " is off " + w[1], x.when(w[0], w[1], 1), w[3]);
        }
        due("24: without people", x.when(2, 0, 0), Dues.NONE);
        due("24: not in the line", x.when(3, 0, 0), Dues.NONE);
        due("24: rope 4", x.when(4, 0, 0), Dues.BEYOND);
        due("24: rope -1", x.when(-1, 0, 0), Dues.BEYOND);
        due("24: piece 2", x.when(0, 2, 0), Dues.BEYOND);
        due("24: piece -1", x.when(0, -1, 0), Dues.BEYOND);
        due("24: what 2", x.when(0, 0, 2), Dues.BEYOND);
        due("24: what -1", x.when(2, 0, -1), Dues.BEYOND);
        x.start(1439);
        due("24: above 1439", x.when(0, 1, 1), 1509);
    }

    /** A fast rope behind a slow one waits ahead of each piece; a slow one behind a fast one doesn't. */
    private static void waiting() {
        RopesAtDawn x = morning();
        x.clear();
        x.join(0);
        x.join(2);
        x.join(1);
        due("24: waits for piece 0", x.when(1, 0, 0), 90);
        due("24: off it", x.when(1, 0, 1), 100);
        due("24: waits for piece 1", x.when(1, 1, 0), 120);
        due("24: off the last", x.when(1, 1, 1), 130);
    }

    private static void risk() {
        RopesAtDawn x = morning();
        due("25: 60 + 2 - 50", x.risk(2, 0), 12);
        due("25: 60 + 10", x.risk(2, 1), 70);
        due("25: 100 + 2 + 10 - 50", x.risk(0, 0), 62);
        due("25: 100 + 10 + 10", x.risk(0, 1), 120);
        due("25: 80 + 2 + 20 - 50", x.risk(1, 0), 52);
        due("25: 80 + 10 + 20", x.risk(1, 1), 110);
        due("25: rope not in the line", x.risk(3, 0), Dues.NONE);
        x.untie(3);
        due("25: on no rope", x.risk(3, 0), Dues.NONE);
        due("25: no such one", x.risk(4, 0), Dues.BEYOND);
        due("25: no such one", x.risk(-1, 0), Dues.BEYOND);
        due("25: no such piece", x.risk(3, 2), Dues.BEYOND);
        due("25: no such piece", x.risk(0, -1), Dues.BEYOND);
        x.start(1439);
        due("25: hour 24, 100 + 48 + 10 - 50", x.risk(0, 0), 108);
        Dues.text(x, 0, "w+h*1+b*1+l*1+s*1");
        due("25: by its text", x.risk(1, 0), 80 + 24 + 2 + 50 + 2);
        Dues.text(x, 0, "9999");
        due("25: 1000 at most", x.risk(1, 0), 1000);
        Dues.text(x, 0, "0-w");
        due("25: 0 at least", x.risk(1, 0), 0);
    }

    private static void over() {
        RopesAtDawn x = new RopesAtDawn();
        due("26: nobody", x.over(), 60);
        x.rope(0, 1, 0);
        x.join(0);
        x.piece(0, 0, 0, 1);
        due("26: an empty rope", x.over(), 60);
        x.start(77);
        x.person(60, 0, 10, 0);
        due("26: on no rope", x.over(), 77);
        x.tie(0, 0);
        due("26: one rope, one piece", x.over(), 87);
        due("26: three ropes", morning().over(), 130);
        RopesAtDawn y = new RopesAtDawn();
        y.rope(0, 1, 0);
        y.person(60, 0, 10, 0);
        y.tie(0, 0);
        y.join(0);
        due("26: without pieces", y.over(), 60);
        due("27: without pieces", y.toll(), 0);
    }

    private static void toll() {
        due("27: nothing", new RopesAtDawn().toll(), 0);
        RopesAtDawn x = morning();
        due("27: 12 + 70 + 2 * (62 + 120 + 52 + 110)", x.toll(), 770);
        x.start(100);
        due("27: piece 1 an hour later", x.toll(), 810);
        x.clear();
        due("27: nobody goes", x.toll(), 0);
        x.join(3);
        due("27: one alone", x.toll(), 12 + 70);
        RopesAtDawn y = new RopesAtDawn();
        Dues.text(y, 0, "1000");
        for (int i = 0; i < 10; i++) {
            y.person(300, 0, 60, 0);
        }
        for (int i = 0; i < 8; i++) {
            y.piece(5, 0, 99, 40);
        }
        y.rope(0, 1, 0);
        y.rope(5, 1, 0);
        for (int i = 0; i < 10; i++) {
            y.tie(i % 2, i);
        }
        y.join(1);
        y.join(0);
        due("27: the most", y.toll(), 400000);
    }

    private static void tollOfHeld() {
        RopesAtDawn x = new RopesAtDawn();
        Dues.text(x, 0, "w");
        x.piece(0, 0, 0, 1);
        x.piece(5, 0, 0, 1);
        x.person(100, 60, 10, 0);
        x.person(60, 110, 10, 0);
        x.rope(0, 1, 0);
        x.tie(0, 0);
        x.tie(0, 1);
        x.join(0);
        // At steep 5 the pulls are 150 and 90, at steep 0 both are held.
        due("27: held at one piece", x.toll(), 2 * 100 + 2 * 60);
        x.rope(6, 1, 0);
        x.untie(0);
        x.untie(1);
        x.clear();
        x.tie(1, 0);
        x.tie(1, 1);
        x.join(1);
        due("27: bare", x.toll(), 2 * (100 + 60));
    }
}
