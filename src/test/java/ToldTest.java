/** Promises 45 to 50: images, numbers that wait, counts, what is told. */
public final class ToldTest {

    private static final Dues DUES = new Dues();

    public static void main(String[] args) {
        image();
        imageLeavesOut();
        imageStays();
        tell();
        check();
        count();
        told();
        errorsChangeNothing();
        DUES.end("ToldTest");
    }

    private static void due(String call, int got, int want) {
        DUES.due(call, got, want);
    }

    private static RopesAtDawn made() {
        RopesAtDawn x = new RopesAtDawn();
        x.person(100, 50, 10, 0);
        x.person(90, 60, 20, 1);
        x.piece(1, 2, 3, 4);
        x.rope(1, 5, 6);
        x.rope(2, 7, 8);
        x.tie(0, 1);
        x.tie(0, 0);
        x.join(1);
        x.join(0);
        x.start(100);
        Dues.text(x, 0, "w+1");
        Dues.text(x, 1, "w+2");
        Dues.feed(x, "w+3");
        x.seed(99);
        x.tell(5);
        return x;
    }

    private static void isAsMade(String call, RopesAtDawn x) {
        int[] counts = {100, 2, 1, 2, 2, 3, 1};
        for (int what = 0; what < counts.length; what++) {
            due(call + ": count(" + what + ")", x.count(what), counts[what]);
        }
        due(call + ": z", x.count(8), 99);
        int[] rope = {1, 5, 6, 2, 1, 1, 0, -1};
        for (int what = 0; what < rope.length; what++) {
            due(call + ": ofRope(0, " + what + ")", x.ofRope(0, what), rope[what]);
        }
        due(call + ": kind", x.ofRope(1, 0), 2);
        due(call + ": person", x.ofPerson(1, 0), 90);
        due(call + ": piece", x.ofPiece(0, 2), 3);
        due(call + ": risk's text", x.law(0, 10, 0, 0, 0), 11);
        due(call + ": haul's text", x.law(1, 10, 0, 0, 0), 12);
    }

    private static void change(RopesAtDawn x) {
        x.person(80, 1, 1, 1);
        x.piece(0, 0, 0, 1);
        x.set(0, 0, 1);
        x.set(0, 1, 1);
        x.swap(0, 1);
        x.untie(1);
        x.tie(1, 1);
        x.rope(6, 1, 1);
        x.clear();
        x.join(2);
        x.start(7);
        Dues.text(x, 0, "0");
        Dues.text(x, 1, "0");
        x.seed(3);
        x.tell(1);
        x.tell(2);
    }

    private static void image() {
        RopesAtDawn x = made();
        due("46: none", x.restore(), Dues.NONE);
        due("45: first", x.image(), 1);
        isAsMade("45", x);
        change(x);
        due("46: its start", x.restore(), 100);
        isAsMade("46", x);
        due("46: the tape", x.text(0), 1);
        due("46: the tape", x.law(0, 10, 0, 0, 0), 13);
        x.restore();
        due("46: a number that waits", x.check(), 1);
        // Texts and people that came only later are gone, and their numbers are free again.
        RopesAtDawn y = new RopesAtDawn();
        y.image();
        change(y);
        y.restore();
        due("46: no text", y.law(0, 10, 0, 0, 0), 10);
        due("46: no text", y.law(1, 10, 3, 0, 0), 35);
        due("46: the number anew", y.person(70, 1, 1, 1), 0);
        due("46: a rope anew", y.rope(6, 1, 1), 0);
        due("46: of its own kind", y.ofRope(0, 0), 6);
        due("46: nobody on it", y.ofRope(0, 3), 0);
    }

    private static void imageLeavesOut() {
        RopesAtDawn x = made();
        x.sheet(0, 8, 4);
        x.voice(0, 0, 1);
        x.image();
        x.sheet(1, 8, 4);
        x.sheet(0, 0, 0);
        x.voice(0, 1, 1);
        x.start(-1);
        x.restore();
        due("46: sheets stay", x.people(0), Dues.NONE);
        due("46: sheets stay", x.people(1), 0);
        due("46: the trace stays", x.count(7), 4);
        due("46: what is told stays", x.told(1), 1);
        due("45: how often", x.image(), 2);
        x.restore();
        due("45: how often", x.image(), 3);
    }

    private static void imageStays() {
        RopesAtDawn x = made();
        x.image();
        change(x);
        x.restore();
        change(x);
        due("46: twice", x.restore(), 100);
        isAsMade("46 twice", x);
        change(x);
        due("45: in place of one ahead", x.image(), 2);
        x.start(8);
        due("46: the newer one", x.restore(), 7);
        due("46: the newer one", x.count(3), 3);
    }

    private static void tell() {
        RopesAtDawn x = new RopesAtDawn();
        for (int i = 1; i <= 20; i++) {
            due("47: tell", x.tell(Integer.MIN_VALUE), i);
        }
        due("47: 20 wait", x.tell(0), Dues.FULL);
        due("49: count(6)", x.count(6), 20);
        x.check();
        due("47: again", x.tell(0), 1);
    }

    private static int checked(RopesAtDawn x, int... numbers) {
        for (int n : numbers) {
            x.tell(n);
        }
        return x.check();
    }

    private static void check() {
        RopesAtDawn x = new RopesAtDawn();
        due("48: nobody", x.check(), 0);
        due("48: nobody", checked(x, -1), 1);
        due("48: none wait then", x.count(6), 0);
        for (int i = 0; i < 5; i++) {
            x.person(80, 1, 1, 0);
        }
        for (int i = 0; i < 4; i++) {
            x.rope(0, 1, 0);
        }
        x.tie(0, 3);
        x.tie(0, 1);
        x.tie(1, 0);
        x.tie(3, 4);
        x.join(1);
        x.join(2);
        x.join(0);
        due("48: as they go", checked(x, 0, 3, 1), 0);
        due("48: none wait then", x.count(6), 0);
        due("48: all are missing", checked(x), 1);
        due("48: the last is missing", checked(x, 0, 3), 3);
        due("48: the first isn't so", checked(x, 3, 0, 1), 1);
        due("48: the second isn't so", checked(x, 0, 1, 3), 2);
        due("48: one too many", checked(x, 0, 3, 1, 2), 4);
        due("48: -1 too many", checked(x, 0, 3, 1, -1), 4);
    }

    private static void count() {
        RopesAtDawn x = made();
        x.voice(1, 3, 4);
        int[] want = {100, 2, 1, 2, 2, 3, 1, 5, 99};
        for (int what = 0; what < want.length; what++) {
            due("49: count(" + what + ")", x.count(what), want[what]);
        }
        due("49: what 9", x.count(9), Dues.BEYOND);
        due("49: what -1", x.count(-1), Dues.BEYOND);
        x.seed(Dues.FULL);
        due("49: any number", x.count(8), Dues.FULL);
        due("49: that was no error", x.told(4), 0);
    }

    private static void told() {
        RopesAtDawn x = new RopesAtDawn();
        for (int k = 1; k <= 5; k++) {
            due("50: told(" + k + ")", x.told(k), 0);
        }
        x.start(-1);
        x.start(-1);
        x.restore();
        x.rope(0, 1, 0);
        x.join(0);
        x.join(0);
        x.as(0, 1);
        for (int i = 0; i < 24; i++) {
            x.tell(1);
        }
        int[] want = {0, 2, 1, 1, 4, 1};
        for (int k = 1; k <= 5; k++) {
            due("50: told(" + k + ")", x.told(k), want[k]);
        }
        due("50: told(0)", x.told(0), Dues.BEYOND);
        due("50: told(6)", x.told(6), Dues.BEYOND);
        due("50: told(-1)", x.told(Integer.MIN_VALUE), Dues.BEYOND);
        due("50: counted, too", x.told(1), 5);
    }

    private static void errorsChangeNothing() {
        RopesAtDawn x = made();
        x.person(0, 0, 0, 0);
        x.piece(0, 0, 0, 0);
        x.rope(0, 0, 0);
        x.tie(0, 0);
        x.untie(2);
        x.set(0, 0, 99);
        x.swap(0, 0);
        x.feed(0, 0);
        x.text(2);
        x.join(0);
        x.start(9999);
        x.take(0, 5);
        x.mornings(0, 0);
        x.told(0);
        isAsMade("errors", x);
    }
}
