/** The bounds that the document names for promises 19 to 21: the tape, texts, what they give. */
public final class TextsBoundsTest {

    private static final Bounds B = new Bounds();
    /** 42 bytes, to which eight more just come. */
    private static final String FORTY_TWO = "tape w" + "+1".repeat(19) + "+12";

    public static void main(String[] args) {
        feed();
        fullTape();
        text();
        faultIsNoError();
        digits();
        blanks();
        openAtOnce();
        faultsWithin();
        endsTooEarly();
        names();
        law();
        lawWithin();
        lawOfNames();
        wrapping();
        quotients();
        truths();
        withoutText();
        B.end("TextsBoundsTest");
    }

    private static void feed() {
        B.from(Worlds.EMPTY);
        B.says(19, "The n lowest bytes (1 .. 8) of a word, the lowest first");
        // The bytes of 7+8*w+90, the lowest first: 37 2b 38 2a 77 2b 39 30.
        long word = 0x30392b772a382b37L;
        int[] want = {7, -12, 15, -14, 63, -16, 72, 153};
        for (int n = 1; n <= 8; n++) {
            boolean whole = want[n - 1] > 0;
            B.takes("feed(" + word + ", " + n + ")", n, "text(0)", whole ? 1 : want[n - 1], "law(0, 7, 0, 0, 0)", whole ? want[n - 1] : 7);
        }
        B.from(Worlds.RICH);
        B.refuses("feed(119, 0)", Dues.BEYOND);
        B.refuses("feed(119, 9)", Dues.BEYOND);
        B.refuses("feed(119, -1)", Dues.BEYOND);
        B.refuses("feed(-1, MIN)", Dues.BEYOND);
        B.refuses("feed(-1, MAX)", Dues.BEYOND);
        B.takes("feed(119, 1)", 10, "count(5)", 10);
    }

    private static void fullTape() {
        B.says(19, "THE TAPE (bytes, at most 50); FULL");
        B.from(Worlds.EMPTY, FORTY_TWO);
        B.takes("count(5)", 42, "feed(0, 8)", 50);
        B.from(Worlds.EMPTY, FORTY_TWO, "feed(49, 1)");
        B.refuses("feed(0, 8)", Dues.FULL);
        B.takes("feed(0, 7)", 50);
        B.from(Worlds.EMPTY, FORTY_TWO, "feed(0, 7)");
        B.refuses("feed(0, 2)", Dues.FULL);
        B.takes("feed(0, 1)", 50);
        B.from(Worlds.FULL);
        B.takes("count(5)", 50);
        B.refuses("feed(49, 1)", Dues.FULL);
        B.refuses("feed(49, 8)", Dues.FULL);
        B.says(19, "BEYOND. FULL.");
        B.refuses("feed(49, 0)", Dues.BEYOND);
        B.refuses("feed(49, 9)", Dues.BEYOND);
        B.refuses("feed(49, MAX)", Dues.BEYOND);
        B.says(19, "THE TAPE has room again when a TEXT was made of it");
        B.takes("text(0)", 1, "feed(49, 8)", 8);
    }

    private static void text() {
        B.from(Worlds.RICH);
        B.says(20, "THE TAPE, which is empty then, is the TEXT of a USE (0, 1), in place of one ahead");
        B.takes("text(0)", 1, "count(5)", 0, "law(0, 10, 5, 3, 0)", 82, "text(0)", -10);
        B.from(Worlds.RICH, "text(0)", "tape d*7-n");
        B.takes("text(1)", 1, "count(5)", 0, "law(1, 0, 9, 0, 3)", 60, "law(0, 10, 5, 3, 0)", 82);
        B.from(Worlds.RICH);
        B.says(20, "BEYOND (THE TAPE stays)");
        B.refuses("text(-1)", Dues.BEYOND);
        B.refuses("text(2)", Dues.BEYOND);
        B.refuses("text(MIN)", Dues.BEYOND);
        B.from(Worlds.EMPTY);
        B.refuses("text(2)", Dues.BEYOND);
    }

    private static void faultIsNoError() {
        B.says(20, "-10 less the FAULT (no ERROR; the one ahead stays), THE TAPE is empty then");
        B.from(Worlds.RICH);
        B.takes("text(1)", -14, "count(5)", 0, "law(1, 10, 6, 2, 3)", 18);
        B.from(Worlds.RICH, "tape +");
        B.takes("text(0)", -20, "count(5)", 0, "law(0, 100, 5, 1, 50)", 70);
        B.says(20, "without one ahead there is none behind a FAULT");
        B.from(Worlds.EMPTY, "tape 1+");
        B.takes("text(0)", -12, "law(0, 100, 5, 1, 50)", 60);
        B.says(20, "a TEXT is read behind a FAULT");
        B.from(Worlds.EMPTY, "tape (((((1+", "text(0)", "tape (((((7)))))");
        B.takes("text(0)", 1, "law(0, 0, 0, 0, 0)", 7);
    }

    /** The fault of a text of use 0, -1 if it has none. */
    private static void fault(String signs, int place) {
        B.from(Worlds.EMPTY, signs.isEmpty() ? new String[0] : new String[] {"tape " + signs});
        B.takes("text(0)", place < 0 ? 1 : -10 - place, "count(5)", 0);
    }

    private static void digits() {
        B.says(20, "a NUMBER of 1 to 4 digits");
        fault("1", -1);
        fault("9999", -1);
        fault("0000", -1);
        fault("10000", 4);
        fault("00000", 4);
        fault("w+1234", -1);
        fault("w+12345", 6);
        fault("1234+5678", -1);
        fault("(1234)", -1);
        fault("(12345)", 5);
        fault("!1234", -1);
        fault("!12345", 5);
        B.from(Worlds.EMPTY, "tape 0999", "text(0)");
        B.takes("law(0, 0, 0, 0, 0)", 999);
        B.from(Worlds.EMPTY, "tape 9999-9000", "text(0)");
        B.takes("law(0, 0, 0, 0, 0)", 999);
        B.says(20, "bytes just outside the digits");
        fault("1/", 2);
        fault("1:", 1);
        fault("/", 0);
        fault(":", 0);
    }

    private static void blanks() {
        B.says(20, "No blanks");
        fault(" w", 0);
        fault("w ", 1);
        fault("w +1", 1);
        fault("w+ 1", 2);
        fault("1 2", 1);
        fault("( w)", 1);
        fault("(w )", 2);
        fault("! w", 1);
        B.says(20, "bytes: 0 and 255 are in no TEXT");
        B.from(Worlds.EMPTY);
        B.takes("feed(0, 1)", 1, "text(0)", -10);
        B.takes("feed(255, 1)", 1, "text(0)", -10);
        B.takes("feed(-137, 2)", 2, "text(0)", -11);
        // 0x177: the byte above that of w doesn't come along.
        B.takes("feed(375, 1)", 1, "text(0)", 1);
    }

    private static void openAtOnce() {
        B.says(20, "At most 5 of ! and ( are open at once");
        fault("(((((w)))))", -1);
        fault("((((((w))))))", 5);
        fault("!!!!!w", -1);
        fault("!!!!!!w", 5);
        fault("!(!(!w))", -1);
        fault("!(!(!(w)))", 5);
        fault("((((!w))))", -1);
        fault("((((!!w))))", 5);
        fault("!!!!(w)", -1);
        fault("!!!!(!w)", 5);
        B.says(20, "what is closed isn't open");
        fault("((((w)+(w))))", -1);
        fault("((((w)+(!w))))", -1);
        fault("((((w)+(!!w))))", 9);
        fault("!!!!!w+!!!!!w", -1);
        fault("!!!!!w*!!!!!!w", 12);
        fault("(((((w)))))<(((((w)))))", -1);
        fault("(((((w)))))<((((((w))))))", 17);
        fault("!(w)+(((((w)))))", -1);
        B.says(20, "T: A { | A }, at any depth that may be open");
        B.from(Worlds.EMPTY, "tape 0|(1&(0|(1<(2-(w*0|1*8)))))", "text(0)");
        B.takes("law(0, 5, 0, 0, 0)", 0);
        B.from(Worlds.EMPTY, "tape 0|(1&(0|(1<(3-(w*0|1*8)))))", "text(0)");
        B.takes("law(0, 5, 0, 0, 0)", 1);
    }

    private static void faultsWithin() {
        B.says(20, "FAULT: the place of the first byte with which no TEXT goes on");
        fault("+", 0);
        fault("-1", 0);
        fault(")", 0);
        fault("w)", 1);
        fault("ww", 1);
        fault("w1", 1);
        fault("1w", 1);
        fault("w!", 1);
        fault("w(", 1);
        fault("()", 1);
        fault("w+)", 2);
        fault("w+*h", 2);
        fault("(w)h", 3);
        fault("(w)(h)", 3);
        fault("(w))", 3);
        fault("w%%h", 2);
        fault("w&&h", 2);
        fault("w||h", 2);
        B.says(20, "B: S, or S < S, S = S, S > S: one at most");
        fault("w<h", -1);
        fault("w<h<b", 3);
        fault("w=h=b", 3);
        fault("w>h=b", 3);
        fault("w<h+1>b", 5);
        fault("w<=h", 2);
        fault("w<h&h<b", -1);
        fault("w<h|h<b", -1);
        fault("(w<h)=(h<b)", -1);
        fault("(w<h<b)", 4);
        B.says(20, "the first byte, of several");
        fault("w+)*(", 2);
        fault("12345 ", 4);
        fault("x12345", 0);
    }

    private static void endsTooEarly() {
        B.says(20, "how many there are, if it ends too early");
        fault("", 0);
        fault("(", 1);
        fault("!", 1);
        fault("w+", 2);
        fault("w<", 2);
        fault("(w", 2);
        fault("((w)", 4);
        fault("!!!!!", 5);
        fault("(((((", 5);
        fault("w|", 2);
        fault("w&(h", 4);
        String most = "w" + "+1".repeat(23) + "+";
        fault(most + "10", -1);
        fault(most + "1+", 50);
        fault(most + "(1", 50);
        fault(most + "!!", 50);
        fault(most + "1)", 49);
    }

    private static void names() {
        B.says(20, "USES: 0 RISK, NAMES w h b l s. 1 HAUL, NAMES w d p n");
        for (char c = 32; c < 127; c++) {
            boolean digit = c >= '0' && c <= '9';
            boolean open = c == '(' || c == '!';
            int other = open ? -11 : -10;
            B.from(Worlds.EMPTY, "tape " + c);
            B.takes("text(0)", digit || "whbls".indexOf(c) >= 0 ? 1 : other);
            B.takes("text(1)", digit || "wdpn".indexOf(c) >= 0 ? 1 : other);
        }
    }

    private static void law() {
        B.from(Worlds.RICH);
        B.says(21, "What a USE gives. BEYOND.");
        B.takes("law(0, 100, 5, 1, 50)", 70);
        B.takes("law(1, 100, 5, 8, 3)", 53);
        B.refuses("law(-1, 1, 1, 1, 1)", Dues.BEYOND);
        B.refuses("law(2, 1, 1, 1, 1)", Dues.BEYOND);
        B.refuses("law(MAX, MAX, MAX, MAX, MAX)", Dues.BEYOND);
        B.refuses("law(MIN, MIN, MIN, MIN, MIN)", Dues.BEYOND);
    }

    private static void lawWithin() {
        int[] most = {1000, 999};
        for (int use = 0; use < 2; use++) {
            B.says(21, "USE " + use + ": held within 0 to " + most[use]);
            B.from(Worlds.EMPTY, "tape w", "text(" + use + ")");
            int[] given = {Integer.MIN_VALUE, -1, 0, 1, most[use] - 1, most[use], most[use] + 1, Integer.MAX_VALUE};
            int[] want = {0, 0, 0, 1, most[use] - 1, most[use], most[use], most[use]};
            for (int i = 0; i < given.length; i++) {
                B.takes("law(" + use + ", " + given[i] + ", 0, 0, 0)", want[i]);
            }
        }
    }

    private static void lawOfNames() {
        B.says(21, "its first four NAMES in order as a, b, c, d (a fifth one 0)");
        String[] texts = {"w", "h", "b", "l", "s+9", "w", "d", "p", "n"};
        int[] want = {11, 22, 33, 44, 9, 11, 22, 33, 44};
        for (int i = 0; i < texts.length; i++) {
            int use = i < 5 ? 0 : 1;
            B.from(Worlds.EMPTY, "tape " + texts[i], "text(" + use + ")");
            B.takes("law(" + use + ", 11, 22, 33, 44)", want[i]);
        }
    }

    /** What a text of use 0 gives with these numbers. */
    private static void gives(String signs, String numbers, int want) {
        B.from(Worlds.EMPTY, "tape " + signs, "text(0)");
        B.takes("law(0, " + numbers + ")", want);
    }

    private static void wrapping() {
        B.says(21, "Ints that wrap");
        gives("w+h<0", "MAX, 0, 0, 0", 0);
        gives("w+h<0", "MAX, 1, 0, 0", 1);
        gives("w-h>0", "MIN, 0, 0, 0", 0);
        gives("w-h>0", "MIN, 1, 0, 0", 1);
        gives("w*h", "65536, 65536, 0, 0", 0);
        gives("w*h", "65535, -65537, 0, 0", 1);
        gives("w*h", "46341, 46341, 0, 0", 0);
        gives("w*h", "46340, 46340, 0, 0", 1000);
        gives("0-w=w", "MIN, 0, 0, 0", 1);
        gives("w/h=w", "MIN, -1, 0, 0", 1);
        gives("w%h+3", "MIN, -1, 0, 0", 3);
        gives("9999*9999*9999>0", "0, 0, 0, 0", 0);
    }

    private static void quotients() {
        B.says(21, "/ cut");
        gives("w/h+10", "7, 2, 0, 0", 13);
        gives("w/h+10", "-7, 2, 0, 0", 7);
        gives("w/h+10", "7, -2, 0, 0", 7);
        gives("w/h+10", "-7, -2, 0, 0", 13);
        gives("w/h+10", "-1, 2, 0, 0", 10);
        B.says(21, "% the rest that it leaves");
        gives("w%h+10", "7, 3, 0, 0", 11);
        gives("w%h+10", "-7, 3, 0, 0", 9);
        gives("w%h+10", "7, -3, 0, 0", 11);
        gives("w%h+10", "-7, -3, 0, 0", 9);
        B.says(21, "both by 0 are 0");
        gives("w/h+10", "7, 0, 0, 0", 10);
        gives("w%h+10", "7, 0, 0, 0", 10);
        gives("w/h+10", "MIN, 0, 0, 0", 10);
        gives("w%h+10", "0, 0, 0, 0", 10);
        gives("w/(h-h)%(b-b)+4", "7, 5, 5, 0", 4);
    }

    private static void truths() {
        B.says(21, "| & < = > ! are 1 or 0, what is not 0 being true");
        gives("w|h", "0, 0, 0, 0", 0);
        gives("w|h", "-1, 0, 0, 0", 1);
        gives("w|h", "0, 8, 0, 0", 1);
        gives("w|h", "4, 8, 0, 0", 1);
        gives("w&h", "4, 8, 0, 0", 1);
        gives("w&h", "-1, MIN, 0, 0", 1);
        gives("w&h", "4, 0, 0, 0", 0);
        gives("w&h", "0, 4, 0, 0", 0);
        gives("!w", "0, 0, 0, 0", 1);
        gives("!w", "1, 0, 0, 0", 0);
        gives("!w", "-1, 0, 0, 0", 0);
        gives("!w", "MIN, 0, 0, 0", 0);
        gives("w<h", "6, 7, 0, 0", 1);
        gives("w<h", "7, 7, 0, 0", 0);
        gives("w>h", "7, 6, 0, 0", 1);
        gives("w>h", "7, 7, 0, 0", 0);
        gives("w=h", "7, 7, 0, 0", 1);
        gives("w=h", "7, 8, 0, 0", 0);
        B.says(21, "1 or 0, with which one goes on");
        String[] none = {"(w|h)", "(h&w)", "(h<w)", "(w=h)", "(w>h)", "!h"};
        String[] one = {"(h|w)", "(h&h)", "(w<h)", "(w=w)", "(h>w)", "!w"};
        for (int i = 0; i < one.length; i++) {
            gives(none[i] + "+5", i == 0 ? "0, 0, 0, 0" : "0, 8, 0, 0", 5);
            gives(one[i] + "+5", "0, 8, 0, 0", 6);
        }
        B.says(21, "T: A { | A }. A: B { & B }: & binds more than |");
        gives("1|0&0", "0, 0, 0, 0", 1);
        gives("0&0|1", "0, 0, 0, 0", 1);
        gives("1&0|0", "0, 0, 0, 0", 0);
        B.says(21, "< > over all ints");
        gives("w<h", "MIN, MAX, 0, 0", 1);
        gives("w>h", "MIN, MAX, 0, 0", 0);
    }

    private static void withoutText() {
        B.from(Worlds.EMPTY);
        B.says(21, "without a TEXT as that of w+s*h+10*b-l would give");
        B.takes("law(0, 100, 99, 3, 130)", 0, "law(0, 100, 99, 3, 129)", 1, "law(0, 100, 99, 3, 131)", 0);
        B.takes("law(0, 970, 0, 3, 0)", 1000, "law(0, 969, 0, 3, 0)", 999, "law(0, 971, 0, 3, 0)", 1000);
        B.takes("law(0, MAX, 0, 0, -1)", 0, "law(0, MAX, 0, 0, 0)", 1000);
        B.takes("law(0, 0, 0, 214748364, 0)", 1000, "law(0, 0, 0, 214748365, 0)", 0);
        B.takes("law(0, MIN, 0, 0, 1)", 1000, "law(0, MIN, 0, 0, 0)", 0);
        B.says(21, "without as that of w*d/(p+1)+5 would");
        B.takes("law(1, 994, 1, 0, 7)", 999, "law(1, 993, 1, 0, 7)", 998, "law(1, 995, 1, 0, 7)", 999);
        B.takes("law(1, -5, 1, 0, 0)", 0, "law(1, -4, 1, 0, 0)", 1, "law(1, -6, 1, 0, 0)", 0);
        B.takes("law(1, 100, 7, -1, 0)", 5, "law(1, 100, 1, -2, 0)", 0);
        B.takes("law(1, 65536, 65536, 0, 0)", 5, "law(1, 65536, 32768, 0, 0)", 0);
        B.takes("law(1, MIN, 1, -2, 0)", 0, "law(1, MIN, 1, MAX, 0)", 6);
    }
}
