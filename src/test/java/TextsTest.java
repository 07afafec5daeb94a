/** Promises 19 to 21: the tape, texts, what they give. */
public final class TextsTest {

    private static final Dues DUES = new Dues();

    public static void main(String[] args) {
        feed();
        text();
        faults();
        openAtOnce();
        namesOfUses();
        lawWithoutText();
        lawByText();
        wrapping();
        DUES.end("TextsTest");
    }

    private static void due(String call, int got, int want) {
        DUES.due(call, got, want);
    }

    private static void feed() {
        RopesAtDawn x = new RopesAtDawn();
        due("19: n 0", x.feed(0x77, 0), Dues.BEYOND);
        due("19: n 9", x.feed(0x77, 9), Dues.BEYOND);
        due("19: n -1", x.feed(0x77, -1), Dues.BEYOND);
        due("19: the lowest first", x.feed(0x7732312b33L, 4), 4);
        due("19: 3+12", x.text(0), 1);
        due("19: 3+12", x.law(0, 0, 0, 0, 0), 15);
        due("19: the tape is empty", x.count(5), 0);
        for (int i = 1; i <= 6; i++) {
            due("19: eight bytes", x.feed(0x3131313131313131L, 8), 8 * i);
        }
        due("19: 51", x.feed(0, 3), Dues.FULL);
        due("19: beyond ahead of full", x.feed(0, 9), Dues.BEYOND);
        due("19: nothing came", x.count(5), 48);
        due("19: 50", x.feed(0, 2), 50);
        due("19: one more", x.feed(0, 1), Dues.FULL);
        due("19: the highest byte", new RopesAtDawn().feed(-1L, 8), 8);
    }

    private static void text() {
        RopesAtDawn x = new RopesAtDawn();
        Dues.feed(x, "7");
        due("20: use 2", x.text(2), Dues.BEYOND);
        due("20: use -1", x.text(-1), Dues.BEYOND);
        due("20: the tape stays", x.count(5), 1);
        due("20: taken", x.text(0), 1);
        due("20: the tape is empty", x.count(5), 0);
        due("20: the other use has none", x.law(1, 2, 3, 0, 0), 11);
        due("20: a fault", Dues.text(x, 0, "8+"), -12);
        due("20: the tape is empty then, too", x.count(5), 0);
        due("20: the one ahead stays", x.law(0, 1, 2, 3, 4), 7);
        due("20: in place of one ahead", Dues.text(x, 0, "9"), 1);
        due("20: the new one", x.law(0, 1, 2, 3, 4), 9);
        due("20: a fault is no error", x.told(1), 2);
        due("20: the longest", Dues.text(x, 0, "1+1+1+1+1+1+1+1+1+1+1+1+1+1+1+1+1+1+1+1+1+1+1+1+10"), 1);
        due("20: the longest", x.law(0, 0, 0, 0, 0), 34);
    }

    private static void fault(String text, int place) {
        RopesAtDawn x = new RopesAtDawn();
        due("20: text " + text, Dues.text(x, 0, text), place < 0 ? 1 : -10 - place);
    }

    private static void faults() {
        fault("", 0);
        fault("w", -1);
        fault("ww", 1);
        fault("1234", -1);
        fault("12345", 4);
        fault("12w", 2);
        fault("w1", 1);
        fault("w ", 1);
        fault(" w", 0);
        fault("+w", 0);
        fault("-1", 0);
        fault("w+", 2);
        fault("w+*", 2);
        fault("w<h", -1);
        fault("w<h<b", 3);
        fault("w<h=b", 3);
        fault("w=h>b", 3);
        fault("w<h&b>l|s=1", -1);
        fault("(w<h)<b", -1);
        fault("w<(h<b)", -1);
        fault("w<h+(b<l", 8);
        fault("(w<h<b)", 4);
        fault("()", 1);
        fault("(w", 2);
        fault("(w))", 3);
        fault("w)", 1);
        fault("(w(", 2);
        fault("!", 1);
        fault("!w", -1);
        fault("w!", 1);
        fault("w!h", 1);
        fault("!w!", 2);
        fault("w==h", 2);
        fault("w&&h", 2);
        fault("w||h", 2);
        fault("w" + (char) 0, 1);
        fault("" + (char) 255, 0);
        fault("W", 0);
        fault("p", 0);
        fault("w+d", 2);
        fault("12345+(", 4);
    }

    private static void openAtOnce() {
        fault("(((((w)))))", -1);
        fault("((((((w))))))", 5);
        fault("!!!!!w", -1);
        fault("!!!!!!w", 5);
        fault("!(!(!w))", -1);
        fault("!(!(!(w)))", 5);
        fault("!!!!!(w)", 5);
        fault("(((((!w)))))", 5);
        fault("!w+!h+!b+!l+!s+!w+!h", -1);
        fault("(!!!!w)+(!!!!w)", -1);
        fault("((!!!w)+!!!w)", -1);
        fault("((!!!w)+!!!!!w)", 12);
        fault("!(w)+!!!!!w", -1);
    }

    private static void namesOfUses() {
        for (char c = 'a'; c <= 'z'; c++) {
            RopesAtDawn x = new RopesAtDawn();
            due("20: name " + c + " of risk", Dues.text(x, 0, "" + c), "whbls".indexOf(c) >= 0 ? 1 : -10);
            due("20: name " + c + " of haul", Dues.text(x, 1, "" + c), "wdpn".indexOf(c) >= 0 ? 1 : -10);
        }
    }

    private static void lawWithoutText() {
        RopesAtDawn x = new RopesAtDawn();
        due("21: w+10*b-l", x.law(0, 100, 9, 3, 20), 110);
        due("21: 0 at least", x.law(0, 100, 9, 3, 131), 0);
        due("21: 1000 at most", x.law(0, 1001, 0, 0, 0), 1000);
        due("21: it wraps", x.law(0, Integer.MAX_VALUE, 0, 1, 0), 0);
        due("21: w*d/(p+1)+5", x.law(1, 100, 7, 9, 50), 75);
        due("21: cut", x.law(1, -7, 1, 1, 0), 2);
        due("21: 999 at most", x.law(1, 999, 1, 0, 0), 999);
        due("21: by 0", x.law(1, 100, 7, -1, 0), 5);
        due("21: the least by -1", x.law(1, Integer.MIN_VALUE, 1, -2, 0), 0);
        due("21: use 2", x.law(2, 0, 0, 0, 0), Dues.BEYOND);
        due("21: use -1", x.law(-1, 0, 0, 0, 0), Dues.BEYOND);
    }

    /** What a risk text gives with w 7, h 3, b 2, l 50. */
    private static void gives(String text, int want) {
        RopesAtDawn x = new RopesAtDawn();
        due("20: text " + text, Dues.text(x, 0, text), 1);
        due("21: " + text, x.law(0, 7, 3, 2, 50), want);
    }

    private static void lawByText() {
        gives("w", 7);
        gives("h", 3);
        gives("b", 2);
        gives("l", 50);
        gives("s+1", 1);
        gives("9999", 1000);
        gives("0010", 10);
        gives("l-w-h", 40);
        gives("l-(w-h)", 46);
        gives("l/w/h", 2);
        gives("l%w*h", 3);
        gives("l/h*b", 32);
        gives("w+h*b", 13);
        gives("(w+h)*b", 20);
        gives("(h-w)/3+10", 9);
        gives("(h-l)%9+10", 8);
        gives("w/0+4", 4);
        gives("w%0+4", 4);
        gives("w<h", 0);
        gives("h<w", 1);
        gives("w<7", 0);
        gives("w>7", 0);
        gives("w>6", 1);
        gives("w=7", 1);
        gives("w=6", 0);
        gives("w=h+4", 1);
        gives("w&h", 1);
        gives("w&0", 0);
        gives("0&w", 0);
        gives("0|b", 1);
        gives("b|0", 1);
        gives("0|0", 0);
        gives("1|0&0", 1);
        gives("0&0|1", 1);
        gives("w>6&h<4", 1);
        gives("!w", 0);
        gives("!0", 1);
        gives("!!w", 1);
        gives("!w+5", 5);
        gives("!0*5", 5);
        gives("!(w<h)+l*!0", 51);
        gives("0-l+49", 0);
        gives("(w>3)*600+(h>2)*500", 1000);
        RopesAtDawn x = new RopesAtDawn();
        Dues.text(x, 1, "w*1+d*10+p*3-n");
        due("21: names of haul", x.law(1, 7, 3, 2, 50), 0);
        due("21: names of haul", x.law(1, 7, 3, 20, 50), 47);
    }

    private static void wrapping() {
        RopesAtDawn x = new RopesAtDawn();
        Dues.text(x, 0, "w*h");
        due("21: 65536 * 65536", x.law(0, 65536, 65536, 0, 0), 0);
        due("21: 65537 * 65537 is 131073", x.law(0, 65537, 65537, 0, 0), 1000);
        Dues.text(x, 0, "w/h+7");
        due("21: the least by -1 is the least", x.law(0, Integer.MIN_VALUE, -1, 0, 0), 0);
        Dues.text(x, 0, "w%h+7");
        due("21: its rest is 0", x.law(0, Integer.MIN_VALUE, -1, 0, 0), 7);
        Dues.text(x, 0, "(w+h<0)*9");
        due("21: a sum goes round", x.law(0, Integer.MAX_VALUE, 1, 0, 0), 9);
    }
}
