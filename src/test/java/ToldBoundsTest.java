/** The bounds that the document names for promises 45 to 50: images, numbers that wait, counts, what is told. */
public final class ToldBoundsTest {

    private static final Bounds B = new Bounds();

    public static void main(String[] args) {
        image();
        imageOfNothing();
        imageOfTexts();
        imageIsLeftOut();
        restore();
        tell();
        check();
        checkOfNobody();
        checkOfTwenty();
        count();
        countsFull();
        told();
        toldOfEachKind();
        errors();
        manyCalls();
        B.end("ToldBoundsTest");
    }

    private static void image() {
        B.says(45, "in place of one ahead: how often that was done");
        B.from(Worlds.EMPTY);
        B.takes("image()", 1, "image()", 2, "image()", 3);
        B.from(Worlds.RICH);
        B.takes("image()", 2, "start(5)", 200, "restore()", 200, "count(1)", 7);
        B.says(45, "restore() doesn't change how often");
        B.takes("restore()", 30, "image()", 2, "restore()", 30, "image()", 3);
        B.says(45, "a refused restore() isn't counted as an IMAGE");
        B.from(Worlds.EMPTY, "restore()");
        B.takes("image()", 1);
    }

    private static void imageOfNothing() {
        B.says(46, "All is as the IMAGE has it: nothing");
        B.from(Worlds.FULL_FROM_NOTHING);
        B.takes("restore()", 60, "count(0)", 60, "count(1)", 0, "count(2)", 0, "count(3)", 0, "count(4)", 0, "count(5)", 0, "count(6)", 0,
            "count(8)", 1, "person(50, 5, 6, 0)", 0, "piece(0, 1, 2, 3)", 0, "rope(0, 1, 0)", 0, "ofRope(0, 3)", 0, "tie(0, 0)", 0);
        B.says(45, "All is kept: as much as there may be");
        B.from(Worlds.FULL, "image()", "text(0)", "clear()", "untie(0)", "untie(4)", "check()", "seed(9)", "start(0)");
        B.takes("restore()", 60, "count(1)", 10, "count(2)", 8, "count(3)", 6, "count(4)", 6, "count(5)", 50, "count(6)", 20, "count(8)", 1,
            "ofPerson(9, 0)", 83, "ofPiece(7, 3)", 6, "ofRope(5, 2)", 8, "ofRope(0, 5)", 0, "ofRope(0, 9)", 4, "ofRope(4, 4)", 5,
            "tie(0, 9)", Dues.FULL, "tell(0)", Dues.FULL, "feed(0, 1)", Dues.FULL, "text(0)", 1, "law(0, 7, 0, 0, 0)", 40, "check()", 10);
    }

    private static void imageOfTexts() {
        B.says(46, "All is as the IMAGE has it: TEXTS of both USES");
        B.from(Worlds.RICH);
        B.takes("law(0, 9, 8, 7, 6)", 143, "restore()", 30, "law(0, 9, 8, 7, 6)", 73, "text(0)", 1, "law(0, 9, 8, 7, 6)", 49);
        B.takes("law(1, 9, 8, 7, 6)", 14, "restore()", 30, "law(1, 9, 8, 7, 6)", 17);
        B.says(46, "All is as the IMAGE has it: no TEXTS");
        B.from(Worlds.FULL_FROM_NOTHING, "text(0)", "tape 9", "text(1)");
        B.takes("law(0, 9, 8, 7, 6)", 42, "law(1, 9, 8, 7, 6)", 9, "restore()", 60, "law(0, 9, 8, 7, 6)", 73, "law(1, 9, 8, 7, 6)", 14);
    }

    private static void imageIsLeftOut() {
        B.says(45, "All (but SHEETS): they stay");
        B.from(Worlds.RICH, "image()", "sheet(0, 0, 0)", "sheet(3, 32, 4)");
        B.takes("restore()", 200, "people(0)", Dues.NONE, "people(3)", 0);
        B.says(45, "All (but THE TRACE): it stays");
        B.from(Worlds.RICH, "image()", "voice(0, 2, 1)");
        B.takes("restore()", 200, "count(7)", 1, "trace(0)", 12, "trace(1)", Dues.NONE);
        B.says(45, "All (but what told() tells): it stays");
        B.from(Worlds.RICH, "image()", "start(-1)", "trace(-1)", "join(0)", "as(0, 1)");
        B.takes("restore()", 200, "told(1)", 3, "told(2)", 2, "told(3)", 4, "told(4)", 0, "told(5)", 2);
    }

    private static void restore() {
        B.says(46, "which stays: START");
        B.from(Worlds.RICH);
        B.takes("restore()", 30, "count(1)", 2, "start(9)", 30, "untie(0)", 0, "restore()", 30, "ofPerson(0, 4)", 0, "count(0)", 30);
        B.says(46, "NONE: there is none");
        B.from(Worlds.EMPTY);
        B.refuses("restore()", Dues.NONE);
        B.from(Worlds.EMPTY, "person(50, 5, 6, 0)", "rope(0, 1, 0)", "tie(0, 0)", "join(0)", "start(7)", "tell(0)", "feed(119, 1)");
        B.refuses("restore()", Dues.NONE);
        B.takes("image()", 1, "restore()", 7);
        B.from(Worlds.without(Worlds.RICH, "image()"));
        B.refuses("restore()", Dues.NONE);
    }

    private static void tell() {
        B.says(47, "One more number waits: how many (any number)");
        B.from(Worlds.RICH);
        B.takes("tell(MIN)", 6, "tell(MAX)", 7, "count(6)", 7);
        B.says(47, "FULL: 20 wait");
        String[] nineteen = {};
        for (int i = 0; i < 19; i++) {
            nineteen = Worlds.with(nineteen, "tell(" + i + ")");
        }
        B.from(nineteen);
        B.takes("tell(7)", 20, "count(6)", 20, "tell(7)", Dues.FULL);
        B.from(Worlds.FULL);
        B.refuses("tell(0)", Dues.FULL);
        B.refuses("tell(MIN)", Dues.FULL);
        B.takes("check()", 10, "tell(0)", 1);
        B.from(Worlds.RICH, Worlds.times(15, "tell(5)"));
        B.refuses("tell(5)", Dues.FULL);
    }

    /** Those numbers wait, and no others. */
    private static void waits(String... numbers) {
        String[] calls = Worlds.with(Worlds.RICH, "check()");
        for (String n : numbers) {
            calls = Worlds.with(calls, "tell(" + n + ")");
        }
        B.from(calls);
    }

    private static void check() {
        B.says(48, "the numbers that wait are PEOPLE on ROPES in THE LINE in the order in which they go: 0 (none do then)");
        B.from(Worlds.RICH);
        B.takes("check()", 0, "count(6)", 0, "check()", 1, "count(6)", 0);
        B.says(48, "else 1 and the place (from 0) of the first that isn't so");
        String[] go = {"1", "0", "2", "3", "4"};
        for (int place = 0; place < go.length; place++) {
            for (String wrong : new String[] {"5", "-1", "MIN"}) {
                String[] numbers = go.clone();
                numbers[place] = wrong;
                waits(numbers);
                B.takes("check()", place + 1, "count(6)", 0);
            }
        }
        B.says(48, "or is missing");
        for (int size = 0; size < go.length; size++) {
            waits(java.util.Arrays.copyOf(go, size));
            B.takes("check()", size + 1, "count(6)", 0);
        }
        B.says(48, "one too many isn't so");
        waits("1", "0", "2", "3", "4", "6");
        B.takes("check()", 6, "count(6)", 0);
        waits("1", "0", "2", "3", "4", "-1");
        B.takes("check()", 6, "count(6)", 0);
    }

    private static void checkOfNobody() {
        B.says(48, "nobody goes, none wait");
        B.from(Worlds.EMPTY);
        B.takes("check()", 0);
        B.from(Worlds.EMPTY, "tell(0)");
        B.takes("check()", 1, "check()", 0);
        B.from(Worlds.RICH, "check()", "clear()");
        B.takes("check()", 0, "join(2)", 0, "check()", 0, "join(3)", 1, "check()", 1, "tell(6)", 1, "check()", 0);
    }

    private static void checkOfTwenty() {
        B.says(48, "20 wait: the first ten are right");
        String[] all = {"rope(0, 1, 0)", "rope(0, 1, 0)", "join(1)", "join(0)"};
        for (int i = 0; i < 10; i++) {
            all = Worlds.with(all, "person(50, 5, 6, 0)", "tie(" + i / 5 + ", " + i + ")");
        }
        String[] told = all;
        for (int i = 0; i < 10; i++) {
            told = Worlds.with(told, "tell(" + (i + 5) % 10 + ")");
        }
        B.from(told);
        B.takes("check()", 0);
        for (int i = 0; i < 10; i++) {
            told = Worlds.with(told, "tell(0)");
        }
        B.from(told);
        B.takes("check()", 11);
    }

    private static void count() {
        B.says(49, "0 START .. 8 z (any number). BEYOND.");
        B.from(Worlds.RICH);
        int[] want = {200, 7, 3, 4, 3, 9, 5, 6, 77};
        for (int what = 0; what < want.length; what++) {
            B.takes("count(" + what + ")", want[what]);
        }
        B.refuses("count(-1)", Dues.BEYOND);
        B.refuses("count(9)", Dues.BEYOND);
        B.refuses("count(MIN)", Dues.BEYOND);
        B.refuses("count(MAX)", Dues.BEYOND);
        B.says(49, "8 z (any number): what looks like an ERROR is none");
        for (int v : new int[] {Dues.BEYOND, Dues.NONE, Dues.STATE, Dues.FULL, Dues.KIND, Integer.MIN_VALUE}) {
            B.from(Worlds.EMPTY, "seed(" + v + ")");
            B.takes("count(8)", v);
        }
    }

    private static void countsFull() {
        B.says(49, "as many as there may be");
        B.from(Worlds.FULL);
        int[] want = {60, 10, 8, 6, 6, 50, 20, 4, 1};
        for (int what = 0; what < want.length; what++) {
            B.takes("count(" + what + ")", want[what]);
        }
    }

    private static void told() {
        B.says(50, "k 1 .. 5");
        B.from(Worlds.RICH);
        B.takes("told(1)", 2, "told(2)", 1, "told(3)", 3, "told(4)", 0, "told(5)", 1);
        B.says(50, "BEYOND: another k (counted, too)");
        B.refuses("told(0)", Dues.BEYOND);
        B.refuses("told(6)", Dues.BEYOND);
        B.refuses("told(-1)", Dues.BEYOND);
        B.refuses("told(MIN)", Dues.BEYOND);
        B.refuses("told(MAX)", Dues.BEYOND);
        B.from(Worlds.EMPTY);
        B.takes("told(1)", 0, "told(0)", Dues.BEYOND, "told(1)", 1, "told(6)", Dues.BEYOND, "told(1)", 2, "told(5)", 0);
    }

    private static void toldOfEachKind() {
        B.says(50, "How many acts have answered an ERROR LOW - k");
        B.from(Worlds.FULL);
        B.takes("told(1)", 0, "start(1440)", -1000000001, "told(1)", 1);
        B.takes("told(2)", 0, "untie(9)", -1000000002, "told(2)", 1);
        B.takes("told(3)", 0, "join(0)", -1000000003, "told(3)", 1);
        B.takes("told(4)", 0, "tell(0)", -1000000004, "told(4)", 1);
        B.takes("told(5)", 0, "as(0, 1)", -1000000005, "told(5)", 1);
        B.says(50, "a FAULT, a place of -1, nobody who came: no ERRORS");
        B.takes("text(1)", 1, "text(1)", -10, "ofPerson(9, 4)", -1, "ofRope(2, 5)", -1, "people(3)", 0, "told(1)", 0, "told(2)", 0,
            "told(3)", 0, "told(4)", 0, "told(5)", 0);
    }

    private static void errors() {
        B.says(0, "ERRORS are answers below -1000000000: LOW - 1 BEYOND .. LOW - 5 KIND");
        B.from(Worlds.FULL);
        B.refuses("start(1440)", -1000000001);
        B.refuses("untie(9)", -1000000002);
        B.refuses("join(0)", -1000000003);
        B.refuses("tell(0)", -1000000004);
        B.refuses("as(0, 1)", -1000000005);
    }

    private static void manyCalls() {
        B.says(0, "An object is used for at most 512 calls");
        String[] calls = new String[500];
        for (int i = 0; i < calls.length; i++) {
            calls[i] = i % 2 == 0 ? "start(1440)" : "image()";
        }
        B.from(calls);
        B.takes("told(1)", 250);
    }
}
