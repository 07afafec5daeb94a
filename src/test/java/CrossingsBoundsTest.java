/** The bounds that the document names for promises 22 to 27: the line, when each rope is where, what is likely lost. */
public final class CrossingsBoundsTest {

    private static final Bounds B = new Bounds();
    /** Person 0 (pace 25) on rope 0, 1 (pace 60) on rope 1, 2 (pace 1) and 3 (pace 7) on rope 2; rope 3 is empty. */
    private static final String[] ROPES = {
        "person(100, 0, 25, 0)", "person(90, 0, 60, 0)", "person(80, 0, 1, 0)", "person(70, 0, 7, 0)",
        "rope(0, 1, 0)", "rope(0, 1, 0)", "rope(0, 1, 0)", "rope(0, 1, 0)",
        "tie(0, 0)", "tie(1, 1)", "tie(2, 2)", "tie(2, 3)",
    };
    private static final String[] WAY = Worlds.with(ROPES, "piece(0, 0, 1, 1)", "piece(0, 5, 2, 1)", "piece(0, 9, 3, 1)");

    public static void main(String[] args) {
        join();
        clear();
        when();
        whenOfLine();
        emptyRopes();
        minutesBeyondTheDay();
        hours();
        before();
        risk();
        riskWithin();
        over();
        toll();
        mostToll();
        B.end("CrossingsBoundsTest");
    }

    private static void join() {
        B.from(Worlds.RICH);
        B.says(22, "A ROPE comes last in THE LINE: its place. BEYOND.");
        B.takes("join(3)", 3, "ofRope(3, 4)", 3, "count(4)", 4);
        B.refuses("join(-1)", Dues.BEYOND);
        B.refuses("join(4)", Dues.BEYOND);
        B.refuses("join(MIN)", Dues.BEYOND);
        B.refuses("join(MAX)", Dues.BEYOND);
        B.says(22, "STATE: it is in it (each once at most)");
        B.refuses("join(0)", Dues.STATE);
        B.refuses("join(1)", Dues.STATE);
        B.refuses("join(2)", Dues.STATE);
        B.says(22, "all six are in it at most");
        B.from(Worlds.FULL);
        for (int rope = 0; rope < 6; rope++) {
            B.refuses("join(" + rope + ")", Dues.STATE);
        }
        B.refuses("join(6)", Dues.BEYOND);
        B.says(22, "a ROPE without PEOPLE comes to THE LINE, too");
        B.from(ROPES);
        B.takes("join(3)", 0, "join(0)", 1, "join(3)", Dues.STATE);
        B.from(Worlds.EMPTY);
        B.refuses("join(0)", Dues.BEYOND);
    }

    private static void clear() {
        B.says(23, "THE LINE is empty: how many ROPES were in it");
        B.from(Worlds.EMPTY);
        B.takes("clear()", 0, "count(4)", 0);
        B.from(Worlds.RICH);
        B.takes("clear()", 3, "count(4)", 0, "ofRope(0, 4)", -1, "clear()", 0, "join(0)", 0, "ofRope(0, 3)", 3);
        B.from(Worlds.FULL);
        B.takes("clear()", 6, "clear()", 0, "join(0)", 0);
    }

    private static void when() {
        B.from(Worlds.RICH);
        B.says(24, "comes to a PIECE (what 0), is off it (1). BEYOND.");
        B.takes("when(0, 0, 0)", 200, "when(0, 0, 1)", 230);
        B.takes("when(0, 2, 0)", 260, "when(0, 2, 1)", 290);
        B.refuses("when(0, 0, -1)", Dues.BEYOND);
        B.refuses("when(0, 0, 2)", Dues.BEYOND);
        B.refuses("when(0, -1, 0)", Dues.BEYOND);
        B.refuses("when(0, 3, 0)", Dues.BEYOND);
        B.refuses("when(-1, 0, 0)", Dues.BEYOND);
        B.refuses("when(4, 0, 0)", Dues.BEYOND);
        B.refuses("when(MAX, MIN, MAX)", Dues.BEYOND);
        B.says(24, "NONE: it isn't in THE LINE, or has no PEOPLE");
        B.refuses("when(3, 0, 0)", Dues.NONE);
        B.refuses("when(2, 0, 0)", Dues.NONE);
        B.refuses("when(2, 0, 1)", Dues.NONE);
        B.says(24, "BEYOND. NONE.");
        B.refuses("when(3, 3, 0)", Dues.BEYOND);
        B.refuses("when(2, 0, 2)", Dues.BEYOND);
        B.from(ROPES, "join(0)");
        B.says(24, "no PIECES: BEYOND");
        B.refuses("when(0, 0, 0)", Dues.BEYOND);
    }

    private static void whenOfLine() {
        B.says(24, "comes to PIECE 0 at START, to each further one when it is off the one ahead of that");
        B.from(WAY, "join(0)");
        B.takes("when(0, 0, 0)", 60, "when(0, 0, 1)", 85, "when(0, 1, 0)", 85, "when(0, 2, 0)", 110, "when(0, 2, 1)", 135);
        B.says(24, "as many MINUTES as the slowest (greatest) PACE on it");
        B.from(WAY, "join(2)");
        B.takes("when(2, 0, 1)", 67, "swap(2, 3)", 1, "when(2, 0, 1)", 67, "untie(3)", 2, "when(2, 0, 1)", 61);
        B.says(24, "to none sooner than the ROPE ahead in THE LINE is off it");
        B.from(WAY, "join(1)", "join(2)");
        B.takes("when(2, 0, 0)", 120, "when(2, 0, 1)", 127, "when(2, 1, 0)", 180, "when(2, 2, 0)", 240, "when(2, 2, 1)", 247);
        B.from(WAY, "join(2)", "join(1)");
        B.takes("when(1, 0, 0)", 67, "when(1, 1, 0)", 127, "when(1, 2, 1)", 247);
        B.from(WAY, "join(1)", "join(2)", "join(0)");
        B.takes("when(0, 0, 0)", 127, "when(0, 1, 0)", 187, "when(0, 2, 0)", 247, "when(0, 2, 1)", 272);
    }

    private static void emptyRopes() {
        B.says(24, "ROPES without PEOPLE are left out");
        B.from(WAY, "join(3)", "join(1)", "join(0)");
        B.takes("when(1, 0, 0)", 60, "over()", 265);
        B.from(WAY, "join(1)", "join(3)", "join(0)");
        B.takes("when(0, 0, 0)", 120, "over()", 265);
        B.from(WAY, "join(1)", "join(0)", "join(3)");
        B.takes("over()", 265, "untie(1)", 1, "when(0, 0, 0)", 60, "over()", 135);
    }

    private static void minutesBeyondTheDay() {
        B.says(24, "MINUTES may be above 1439");
        B.from(WAY, "start(1439)", "join(1)", "join(0)");
        B.takes("when(1, 0, 0)", 1439, "when(1, 0, 1)", 1499, "when(0, 2, 1)", 1644, "over()", 1644);
        B.says(24, "the longest CROSSING");
        String[] way = new String[37];
        for (int i = 0; i < 10; i++) {
            way[i] = "person(300, 0, 60, 0)";
        }
        for (int i = 0; i < 6; i++) {
            way[10 + i] = "rope(0, 1, 0)";
            way[16 + i] = "join(" + i + ")";
            way[22 + i] = "tie(" + i + ", " + i + ")";
        }
        for (int i = 0; i < 8; i++) {
            way[28 + i] = "piece(5, 0, 99, 40)";
        }
        way[36] = "start(1439)";
        B.from(way);
        B.takes("over()", 1439 + 60 * 13, "when(5, 7, 0)", 1439 + 60 * 12, "when(5, 0, 0)", 1439 + 60 * 5);
    }

    private static void hours() {
        B.says(25, "HOUR of a MINUTE: by 60 (cut), of that in which the ROPE comes to the PIECE");
        int[] starts = {0, 59, 60, 119, 120, 1439};
        int[] hours = {0, 0, 1, 1, 2, 23};
        for (int i = 0; i < starts.length; i++) {
            B.from(WAY, "tape h", "text(0)", "join(0)", "start(" + starts[i] + ")");
            B.takes("risk(0, 0)", hours[i]);
        }
        B.says(25, "MINUTES above 1439: HOUR 24 and more");
        B.from(WAY, "tape h", "text(0)", "join(0)", "start(1414)");
        B.takes("risk(0, 1)", 23, "start(1415)", 1414, "risk(0, 1)", 24, "start(1439)", 1415, "risk(0, 2)", 24);
    }

    private static void before() {
        B.says(25, "BEFORE: all of ROPES ahead in THE LINE, and those ahead on the own one");
        B.from(WAY, "tape b", "text(0)", "join(2)", "join(3)", "join(0)");
        B.takes("risk(2, 0)", 0, "risk(3, 0)", 1, "risk(0, 0)", 2, "risk(0, 2)", 2);
        B.takes("untie(2)", 2, "risk(3, 0)", 0, "risk(0, 0)", 1);
        B.takes("untie(1)", 1, "risk(0, 0)", 2, "tie(3, 1)", 0, "risk(0, 0)", 3, "risk(1, 0)", 2);
    }

    private static void risk() {
        B.from(Worlds.RICH);
        B.says(25, "RISK of one at a PIECE. BEYOND.");
        B.takes("risk(0, 0)", 100 + 3 * 3 + 20 - 90, "risk(4, 2)", 0);
        B.refuses("risk(-1, 0)", Dues.BEYOND);
        B.refuses("risk(7, 0)", Dues.BEYOND);
        B.refuses("risk(0, -1)", Dues.BEYOND);
        B.refuses("risk(0, 3)", Dues.BEYOND);
        B.refuses("risk(MIN, MAX)", Dues.BEYOND);
        B.says(25, "NONE: that one is on no ROPE in THE LINE");
        B.refuses("risk(5, 0)", Dues.NONE);
        B.refuses("risk(6, 0)", Dues.NONE);
        B.from(Worlds.RICH, "clear()");
        B.refuses("risk(0, 0)", Dues.NONE);
        B.says(25, "BEYOND. NONE.");
        B.refuses("risk(5, 3)", Dues.BEYOND);
        B.refuses("risk(6, -1)", Dues.BEYOND);
    }

    private static void riskWithin() {
        B.says(25, "RISK in thousandths, held within 0 to 1000");
        String[] texts = {"999", "1000", "1001", "9999*9999", "1", "0", "0-1"};
        int[] want = {999, 1000, 1000, 1000, 1, 0, 0};
        for (int i = 0; i < texts.length; i++) {
            B.from(WAY, "tape " + texts[i], "text(0)", "join(0)");
            B.takes("risk(0, 0)", want[i], "toll()", 3 * want[i]);
        }
        B.says(25, "without a TEXT as that of w+s*h+10*b-l would give");
        B.from(WAY, "piece(0, 100, 0, 1)", "piece(0, 101, 0, 1)", "piece(0, 102, 0, 1)", "piece(0, 999, 99, 1)", "join(0)");
        B.takes("risk(0, 3)", 0, "risk(0, 4)", 0, "risk(0, 5)", 0, "risk(0, 6)", 0, "risk(0, 0)", 101, "risk(0, 1)", 97);
    }

    private static void over() {
        B.says(26, "START without any, or without PIECES");
        B.from(Worlds.EMPTY);
        B.takes("over()", 60, "start(0)", 60, "over()", 0, "start(1439)", 0, "over()", 1439);
        B.from(WAY);
        B.takes("over()", 60);
        B.from(WAY, "join(3)");
        B.takes("over()", 60);
        B.from(ROPES, "join(0)", "join(1)");
        B.takes("over()", 60);
        B.says(26, "the last ROPE with PEOPLE is off the last PIECE");
        B.from(ROPES, "join(2)", "piece(0, 0, 0, 1)");
        B.takes("over()", 67, "piece(0, 0, 0, 1)", 1, "over()", 74, "untie(2)", 2, "over()", 74, "untie(3)", 2, "over()", 60);
    }

    private static void toll() {
        B.says(27, "of all PEOPLE on ROPES in THE LINE at all PIECES: none");
        B.from(Worlds.EMPTY);
        B.takes("toll()", 0);
        B.from(ROPES, "join(0)", "join(3)");
        B.takes("toll()", 0, "piece(0, 99, 0, 1)", 0, "toll()", 1);
        B.from(WAY);
        B.takes("toll()", 0, "join(3)", 0, "toll()", 0);
        B.says(27, "BEFORE: all of ROPES ahead in THE LINE, of the third ROPE");
        B.from(ROPES, "join(2)", "join(1)", "join(3)", "join(0)", "tape 100*(b=3)", "text(0)", "piece(0, 0, 0, 1)");
        B.takes("toll()", 100, "untie(2)", 2, "toll()", 0);
        B.says(27, "RISK times COST: nothing of one who is HELD");
        B.from(ROPES, "join(1)", "tape 10", "text(0)", "piece(0, 0, 0, 1)", "person(50, 90, 1, 0)", "person(50, 89, 1, 0)");
        B.takes("toll()", 10, "tie(1, 4)", 1, "toll()", 20, "untie(4)", 1, "tie(1, 5)", 1, "toll()", 40);
    }

    private static void mostToll() {
        B.says(27, "the most that TOLL may be: 10 PEOPLE, 8 PIECES, RISK 1000, COST 5");
        String[] all = {"tape 1000", "text(0)", "rope(0, 1, 0)", "rope(5, 1, 0)", "join(1)", "join(0)"};
        for (int i = 0; i < 10; i++) {
            all = Worlds.with(all, "person(30, 0, 1, 1)", "tie(" + i % 2 + ", " + i + ")");
        }
        for (int i = 0; i < 8; i++) {
            all = Worlds.with(all, "piece(-5, 0, 0, 1)");
        }
        B.from(all);
        B.takes("toll()", 400000, "line(-1)", 400000, "order(0, -1)", 400000, "take(2, 0)", 400000);
    }
}
