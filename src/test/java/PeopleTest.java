/** Promises 1 to 7: a new object, people, pieces, the start. */
public final class PeopleTest {

    private static final Dues DUES = new Dues();

    public static void main(String[] args) {
        newObject();
        person();
        ofPerson();
        peopleFromSheet();
        peopleWithoutRoom();
        signsOfSheets();
        piece();
        start();
        DUES.end("PeopleTest");
    }

    private static void due(String call, int got, int want) {
        DUES.due(call, got, want);
    }

    private static void newObject() {
        RopesAtDawn x = new RopesAtDawn();
        int[] first = {60, 0, 0, 0, 0, 0, 0, 0, 1};
        for (int what = 0; what < first.length; what++) {
            due("1: count(" + what + ")", x.count(what), first[what]);
        }
        due("1: restore()", x.restore(), Dues.NONE);
        due("1: trace(0)", x.trace(0), Dues.NONE);
        for (int sheet = 0; sheet < 4; sheet++) {
            due("1: put(" + sheet + ", 0, 0)", x.put(sheet, 0, 0), Dues.NONE);
        }
        due("1: told(1)", x.told(1), 0);
        due("1: told(2)", x.told(2), 6);
    }

    private static void person() {
        RopesAtDawn x = new RopesAtDawn();
        due("2: least", x.person(30, 0, 1, 0), 0);
        due("2: most", x.person(300, 999, 60, 1), 1);
        int[][] wrong = {
            {29, 0, 1, 0}, {301, 0, 1, 0}, {30, -1, 1, 0}, {30, 1000, 1, 0}, {30, 0, 0, 0}, {30, 0, 61, 0},
            {30, 0, 1, -1}, {30, 0, 1, 2}, {Integer.MIN_VALUE, 0, 1, 0}, {30, 0, 1, Integer.MAX_VALUE},
        };
        for (int[] w : wrong) {
            due("2: person beyond", x.person(w[0], w[1], w[2], w[3]), Dues.BEYOND);
        }
        due("2: none came", x.count(1), 2);
        for (int i = 2; i < 10; i++) {
            due("2: person", x.person(80, 90, 10, 0), i);
        }
        due("2: an eleventh", x.person(80, 90, 10, 0), Dues.FULL);
        due("2: an eleventh beyond", x.person(80, 90, 10, 2), Dues.BEYOND);
        due("2: count(1)", x.count(1), 10);
    }

    private static void ofPerson() {
        RopesAtDawn x = new RopesAtDawn();
        due("3: nobody yet", x.ofPerson(0, 0), Dues.BEYOND);
        x.person(81, 92, 13, 1);
        x.person(40, 50, 60, 0);
        int[] want = {81, 92, 13, 1, -1, -1};
        for (int what = 0; what < 6; what++) {
            due("3: ofPerson(0, " + what + ")", x.ofPerson(0, what), want[what]);
        }
        x.rope(0, 1, 0);
        x.rope(0, 1, 0);
        x.tie(1, 1);
        x.tie(1, 0);
        due("3: rope", x.ofPerson(0, 4), 1);
        due("3: place", x.ofPerson(0, 5), 1);
        due("3: place of the other", x.ofPerson(1, 5), 0);
        due("3: person -1", x.ofPerson(-1, 0), Dues.BEYOND);
        due("3: person 2", x.ofPerson(2, 0), Dues.BEYOND);
        due("3: what -1", x.ofPerson(0, -1), Dues.BEYOND);
        due("3: what 6", x.ofPerson(0, 6), Dues.BEYOND);
    }

    private static void fill(RopesAtDawn x, int sheet, int... numbers) {
        for (int i = 0; i < numbers.length; i++) {
            x.put(sheet, i, numbers[i]);
        }
    }

    private static void peopleFromSheet() {
        RopesAtDawn x = new RopesAtDawn();
        due("4: no such sheet", x.people(4), Dues.BEYOND);
        due("4: no such sheet", x.people(-1), Dues.BEYOND);
        due("4: missing", x.people(0), Dues.NONE);
        x.sheet(0, 16, 0);
        due("4: nothing on it", x.people(0), 0);
        x.sheet(0, 16, 14);
        fill(x, 0, 70, 7, 8, 1, 300, 999, 60, 0, 30, 0, 1, 1, 70, 7);
        due("4: the last isn't whole", x.people(0), 3);
        due("4: weight", x.ofPerson(1, 0), 300);
        due("4: strength", x.ofPerson(1, 1), 999);
        due("4: pace", x.ofPerson(1, 2), 60);
        due("4: guide", x.ofPerson(2, 3), 1);
        fill(x, 0, 70, 7, 8, 1, 300, 1000, 60, 0);
        due("4: up to the first that isn't as told", x.people(0), 1);
        due("4: those came", x.count(1), 4);
        x.put(0, 0, 20);
        due("4: not even the first", x.people(0), 0);
        x.sheet(0, 16, 7);
        fill(x, 0, 70, 7, 8, 1, 60, 5, 5);
        due("4: whether he guides is missing", x.people(0), 1);
    }

    private static void peopleWithoutRoom() {
        RopesAtDawn x = new RopesAtDawn();
        x.sheet(3, 32, 40);
        for (int i = 0; i < 10; i++) {
            x.put(3, 4 * i, 50 + i);
            x.put(3, 4 * i + 2, 5);
        }
        x.person(90, 9, 9, 0);
        due("4: no room for the last", x.people(3), 9);
        due("4: who came last", x.ofPerson(9, 0), 58);
        due("4: no room at all", x.people(3), 0);
        due("4: that's no error", x.told(4), 0);
    }

    /** Numbers of 8 and 16 bits bear signs, as those of 32 do. */
    private static void signsOfSheets() {
        RopesAtDawn x = new RopesAtDawn();
        x.sheet(0, 8, 4);
        fill(x, 0, 127, 127, 5, 0);
        due("4: greatest of 8 bits", x.people(0), 1);
        fill(x, 0, 128, 127, 5, 0);
        due("4: 128 in 8 bits is below 0", x.people(0), 0);
        fill(x, 0, 256 + 77, 256 * 4 + 3, 256 + 5, 256 + 1);
        due("4: the lowest 8 bits", x.people(0), 1);
        due("4: the lowest 8 bits", x.ofPerson(1, 0), 77);
        due("4: the lowest 8 bits", x.ofPerson(1, 1), 3);
        x.sheet(0, 16, 4);
        fill(x, 0, 65536 * 3 + 300, 65536 + 999, 5, 0);
        due("4: the lowest 16 bits", x.people(0), 1);
        due("4: the lowest 16 bits", x.ofPerson(2, 0), 300);
        x.sheet(0, 32, 4);
        fill(x, 0, 65536 + 300, 999, 5, 0);
        due("4: all 32 bits", x.people(0), 0);
    }

    private static void piece() {
        RopesAtDawn x = new RopesAtDawn();
        due("6: none yet", x.ofPiece(0, 0), Dues.BEYOND);
        due("5: least", x.piece(-5, 0, 0, 1), 0);
        due("5: most", x.piece(5, 999, 99, 40), 1);
        int[][] wrong = {
            {-6, 0, 0, 1}, {6, 0, 0, 1}, {0, -1, 0, 1}, {0, 1000, 0, 1}, {0, 0, -1, 1}, {0, 0, 100, 1},
            {0, 0, 0, 0}, {0, 0, 0, 41},
        };
        for (int[] w : wrong) {
            due("5: piece beyond", x.piece(w[0], w[1], w[2], w[3]), Dues.BEYOND);
        }
        int[] want = {5, 999, 99, 40};
        for (int what = 0; what < 4; what++) {
            due("6: ofPiece(1, " + what + ")", x.ofPiece(1, what), want[what]);
        }
        due("6: steep below 0", x.ofPiece(0, 0), -5);
        due("6: what -1", x.ofPiece(0, -1), Dues.BEYOND);
        due("6: what 4", x.ofPiece(0, 4), Dues.BEYOND);
        due("6: piece -1", x.ofPiece(-1, 0), Dues.BEYOND);
        due("6: piece 2", x.ofPiece(2, 0), Dues.BEYOND);
        for (int i = 2; i < 8; i++) {
            due("5: piece", x.piece(0, 1, 2, 3), i);
        }
        due("5: a ninth", x.piece(0, 1, 2, 3), Dues.FULL);
        due("5: a ninth beyond", x.piece(0, 1, 2, 0), Dues.BEYOND);
    }

    private static void start() {
        RopesAtDawn x = new RopesAtDawn();
        due("7: start(0)", x.start(0), 60);
        due("7: start(1439)", x.start(1439), 0);
        due("7: start(-1)", x.start(-1), Dues.BEYOND);
        due("7: start(1440)", x.start(1440), Dues.BEYOND);
        due("7: it stays", x.count(0), 1439);
    }
}
