/** The bounds that the document names for promises 1 to 7: a new object, people, pieces, the start. */
public final class PeopleBoundsTest {

    private static final Bounds B = new Bounds();
    private static final String[] NINE = {
        "person(31, 1, 1, 0)", "person(32, 1, 1, 0)", "person(33, 1, 1, 0)", "person(34, 1, 1, 0)", "person(35, 1, 1, 0)",
        "person(36, 1, 1, 0)", "person(37, 1, 1, 0)", "person(38, 1, 1, 0)", "person(39, 1, 1, 0)",
    };

    public static void main(String[] args) {
        newObject();
        nothingAtFirst();
        person();
        roomForPeople();
        ofPerson();
        peopleOfSheets();
        peopleAsTold();
        peopleWhole();
        peopleWithRoom();
        piece();
        roomForPieces();
        ofPiece();
        start();
        B.end("PeopleBoundsTest");
    }

    private static void newObject() {
        B.from(Worlds.EMPTY);
        B.says(1, "no PEOPLE, PIECES, ROPES");
        B.takes("count(1)", 0, "count(2)", 0, "count(3)", 0);
        B.refuses("ofPerson(0, 0)", Dues.BEYOND);
        B.refuses("ofPiece(0, 0)", Dues.BEYOND);
        B.refuses("ofRope(0, 0)", Dues.BEYOND);
        B.takes("person(30, 0, 1, 0)", 0);
        B.takes("piece(0, 0, 0, 1)", 0);
        B.takes("rope(0, 1, 0)", 0);
        B.says(1, "START is one (60 at first)");
        B.takes("count(0)", 60, "start(61)", 60);
        B.says(1, "THE LINE (none at first)");
        B.takes("count(4)", 0, "clear()", 0);
        B.says(1, "z is told (1 at first)");
        B.takes("count(8)", 1, "seed(2)", 1);
    }

    private static void nothingAtFirst() {
        B.from(Worlds.EMPTY);
        B.says(1, "SHEETS are missing (as at first)");
        for (int sheet = 0; sheet < 4; sheet++) {
            B.refuses("people(" + sheet + ")", Dues.NONE);
            B.refuses("put(" + sheet + ", 0, 0)", Dues.NONE);
            B.refuses("move(" + sheet + ", 0, " + sheet + ", 0, 0)", Dues.NONE);
        }
        B.says(1, "All as at first: THE TAPE, numbers that wait, THE TRACE, the IMAGE");
        B.takes("count(5)", 0, "text(0)", -10);
        B.takes("count(6)", 0, "check()", 0);
        B.takes("count(7)", 0, "trace(0)", Dues.NONE);
        B.refuses("restore()", Dues.NONE);
        B.takes("image()", 1);
        B.says(1, "All as at first: no TEXT, nothing told");
        B.takes("law(0, 7, 9, 2, 3)", 24, "law(1, 7, 9, 2, 3)", 26);
        B.takes("told(1)", 0, "told(2)", 0, "told(3)", 0, "told(4)", 0, "told(5)", 0);
    }

    private static void person() {
        B.from(Worlds.RICH);
        B.says(2, "WEIGHT (30 to 300)");
        B.takes("person(30, 5, 6, 0)", 7, "ofPerson(7, 0)", 30);
        B.takes("person(300, 5, 6, 0)", 7, "ofPerson(7, 0)", 300);
        B.refuses("person(29, 5, 6, 0)", Dues.BEYOND);
        B.refuses("person(301, 5, 6, 0)", Dues.BEYOND);
        B.refuses("person(MIN, 5, 6, 0)", Dues.BEYOND);
        B.refuses("person(MAX, 5, 6, 0)", Dues.BEYOND);
        B.says(2, "STRENGTH (0 to 999)");
        B.takes("person(50, 0, 6, 0)", 7, "ofPerson(7, 1)", 0);
        B.takes("person(50, 999, 6, 0)", 7, "ofPerson(7, 1)", 999);
        B.refuses("person(50, -1, 6, 0)", Dues.BEYOND);
        B.refuses("person(50, 1000, 6, 0)", Dues.BEYOND);
        B.says(2, "PACE (1 to 60: MINUTES for a PIECE)");
        B.takes("person(50, 5, 1, 0)", 7, "ofPerson(7, 2)", 1);
        B.takes("person(50, 5, 60, 0)", 7, "ofPerson(7, 2)", 60);
        B.refuses("person(50, 5, 0, 0)", Dues.BEYOND);
        B.refuses("person(50, 5, 61, 0)", Dues.BEYOND);
        B.says(2, "GUIDE (1) or not (0)");
        B.takes("person(50, 5, 6, 0)", 7, "ofPerson(7, 3)", 0);
        B.takes("person(50, 5, 6, 1)", 7, "ofPerson(7, 3)", 1);
        B.refuses("person(50, 5, 6, -1)", Dues.BEYOND);
        B.refuses("person(50, 5, 6, 2)", Dues.BEYOND);
    }

    private static void roomForPeople() {
        B.says(2, "PEOPLE 0, 1, .. (at most 10)");
        B.from(NINE);
        B.takes("person(40, 1, 1, 0)", 9, "count(1)", 10, "ofPerson(9, 0)", 40, "person(41, 1, 1, 0)", Dues.FULL);
        B.from(Worlds.RICH, "person(40, 1, 1, 0)", "person(40, 1, 1, 0)", "person(40, 1, 1, 0)");
        B.refuses("person(40, 1, 1, 0)", Dues.FULL);
        B.from(Worlds.FULL);
        B.refuses("person(40, 1, 1, 0)", Dues.FULL);
        B.says(2, "BEYOND. FULL.");
        B.refuses("person(29, 1, 1, 0)", Dues.BEYOND);
        B.refuses("person(40, 1, 1, 2)", Dues.BEYOND);
    }

    private static void ofPerson() {
        B.from(Worlds.RICH);
        B.says(3, "Of one: 0 WEIGHT .. 5 the place on it; BEYOND");
        B.takes("ofPerson(6, 0)", 80);
        B.takes("ofPerson(6, 5)", 0);
        B.refuses("ofPerson(6, -1)", Dues.BEYOND);
        B.refuses("ofPerson(6, 6)", Dues.BEYOND);
        B.takes("ofPerson(0, 0)", 100);
        B.refuses("ofPerson(-1, 0)", Dues.BEYOND);
        B.refuses("ofPerson(7, 0)", Dues.BEYOND);
        B.refuses("ofPerson(MIN, MAX)", Dues.BEYOND);
        B.says(3, "4 the ROPE on which (-1: none), 5 the place on it (-1)");
        B.takes("ofPerson(5, 4)", -1, "ofPerson(5, 5)", -1, "tie(3, 5)", 1, "ofPerson(5, 4)", 3, "ofPerson(5, 5)", 1);
    }

    private static String[] sheetOf(int bits, int... numbers) {
        String[] calls = new String[numbers.length + 1];
        calls[0] = "sheet(1, " + bits + ", " + numbers.length + ")";
        for (int i = 0; i < numbers.length; i++) {
            calls[i + 1] = "put(1, " + i + ", " + numbers[i] + ")";
        }
        return calls;
    }

    private static void peopleOfSheets() {
        B.from(Worlds.RICH);
        B.says(4, "BEYOND: no such SHEET");
        B.takes("people(0)", 2);
        B.refuses("people(-1)", Dues.BEYOND);
        B.refuses("people(4)", Dues.BEYOND);
        B.refuses("people(MAX)", Dues.BEYOND);
        B.says(4, "NONE: it is missing");
        B.refuses("people(3)", Dues.NONE);
        B.from(Worlds.RICH, "sheet(3, 32, 0)");
        B.takes("people(3)", 0);
        B.from(Worlds.RICH, "sheet(0, 0, 9)");
        B.refuses("people(0)", Dues.NONE);
    }

    private static void peopleAsTold() {
        B.says(4, "up to the first that isn't as told");
        int[] least = {30, 0, 1, 0};
        int[] most = {300, 999, 60, 1};
        for (int what = 0; what < 4; what++) {
            int[] four = {50, 60, 7, 1, 70, 80, 9, 0, 90, 99, 11, 1};
            for (int v : new int[] {least[what], most[what]}) {
                four[4 + what] = v;
                B.from(Worlds.EMPTY, sheetOf(16, four));
                B.takes("people(1)", 3, "count(1)", 3, "ofPerson(1, " + what + ")", v, "ofPerson(2, 1)", 99);
            }
            for (int v : new int[] {least[what] - 1, most[what] + 1}) {
                four[4 + what] = v;
                B.from(Worlds.EMPTY, sheetOf(16, four));
                B.takes("people(1)", 1, "count(1)", 1, "ofPerson(0, 1)", 60);
            }
        }
        B.says(4, "from number 0 on");
        B.from(Worlds.EMPTY, sheetOf(16, 29, 60, 7, 1, 70, 80, 9, 0));
        B.takes("people(1)", 0, "count(1)", 0);
    }

    private static void peopleWhole() {
        B.says(4, "or isn't whole");
        int[] numbers = {50, 60, 7, 1, 70, 80, 9, 0};
        int[] came = {0, 0, 0, 0, 1, 1, 1, 1, 2};
        for (int n = 0; n < came.length; n++) {
            B.from(Worlds.EMPTY, sheetOf(32, java.util.Arrays.copyOf(numbers, n)));
            B.takes("people(1)", came[n], "count(1)", came[n]);
        }
    }

    private static void peopleWithRoom() {
        B.says(4, "or has no room");
        String[] two = sheetOf(8, 50, 60, 7, 1, 70, 80, 9, 0);
        B.from(java.util.Arrays.copyOf(NINE, 8), two);
        B.takes("people(1)", 2, "count(1)", 10, "ofPerson(9, 0)", 70);
        B.from(NINE, two);
        B.takes("people(1)", 1, "count(1)", 10, "ofPerson(9, 0)", 50);
        B.from(Worlds.FULL, two);
        B.takes("people(1)", 0, "count(1)", 10, "ofPerson(9, 0)", 83);
    }

    private static void piece() {
        B.from(Worlds.RICH);
        B.says(5, "STEEP (-5 to 5)");
        B.takes("piece(-5, 1, 2, 3)", 3, "ofPiece(3, 0)", -5);
        B.takes("piece(5, 1, 2, 3)", 3, "ofPiece(3, 0)", 5);
        B.refuses("piece(-6, 1, 2, 3)", Dues.BEYOND);
        B.refuses("piece(6, 1, 2, 3)", Dues.BEYOND);
        B.says(5, "BEARS (0 to 999)");
        B.takes("piece(0, 0, 2, 3)", 3, "ofPiece(3, 1)", 0);
        B.takes("piece(0, 999, 2, 3)", 3, "ofPiece(3, 1)", 999);
        B.refuses("piece(0, -1, 2, 3)", Dues.BEYOND);
        B.refuses("piece(0, 1000, 2, 3)", Dues.BEYOND);
        B.says(5, "SOFT (0 to 99)");
        B.takes("piece(0, 1, 0, 3)", 3, "ofPiece(3, 2)", 0);
        B.takes("piece(0, 1, 99, 3)", 3, "ofPiece(3, 2)", 99);
        B.refuses("piece(0, 1, -1, 3)", Dues.BEYOND);
        B.refuses("piece(0, 1, 100, 3)", Dues.BEYOND);
        B.says(5, "DEEP (1 to 40)");
        B.takes("piece(0, 1, 2, 1)", 3, "ofPiece(3, 3)", 1);
        B.takes("piece(0, 1, 2, 40)", 3, "ofPiece(3, 3)", 40);
        B.refuses("piece(0, 1, 2, 0)", Dues.BEYOND);
        B.refuses("piece(0, 1, 2, 41)", Dues.BEYOND);
        B.refuses("piece(MIN, MAX, MIN, MAX)", Dues.BEYOND);
    }

    private static void roomForPieces() {
        B.says(5, "PIECES 0, 1, .. (at most 8)");
        B.from(Worlds.RICH, "piece(0, 1, 2, 3)", "piece(0, 1, 2, 4)", "piece(0, 1, 2, 5)", "piece(0, 1, 2, 6)");
        B.takes("piece(0, 1, 2, 7)", 7, "count(2)", 8, "ofPiece(7, 3)", 7, "piece(0, 1, 2, 8)", Dues.FULL);
        B.from(Worlds.RICH, Worlds.times(5, "piece(0, 1, 2, 3)"));
        B.refuses("piece(0, 1, 2, 3)", Dues.FULL);
        B.from(Worlds.FULL);
        B.refuses("piece(0, 1, 2, 3)", Dues.FULL);
        B.says(5, "BEYOND. FULL.");
        B.refuses("piece(6, 1, 2, 3)", Dues.BEYOND);
        B.refuses("piece(0, 1, 2, 0)", Dues.BEYOND);
    }

    private static void ofPiece() {
        B.from(Worlds.RICH);
        B.says(6, "Of a PIECE: 0 STEEP, 1 BEARS, 2 SOFT, 3 DEEP. BEYOND.");
        B.takes("ofPiece(2, 0)", -5);
        B.takes("ofPiece(2, 3)", 1);
        B.refuses("ofPiece(2, -1)", Dues.BEYOND);
        B.refuses("ofPiece(2, 4)", Dues.BEYOND);
        B.takes("ofPiece(0, 1)", 90);
        B.refuses("ofPiece(-1, 1)", Dues.BEYOND);
        B.refuses("ofPiece(3, 1)", Dues.BEYOND);
        B.refuses("ofPiece(MAX, MIN)", Dues.BEYOND);
    }

    private static void start() {
        B.from(Worlds.RICH);
        B.says(7, "A day has MINUTES 0 to 1439; START is one");
        B.takes("start(0)", 200, "count(0)", 0);
        B.takes("start(1439)", 200, "count(0)", 1439);
        B.refuses("start(-1)", Dues.BEYOND);
        B.refuses("start(1440)", Dues.BEYOND);
        B.refuses("start(MIN)", Dues.BEYOND);
    }
}
