/** The bounds that the document names for promises 42 to 44: sheets. */
public final class SheetsBoundsTest {

    private static final Bounds B = new Bounds();

    public static void main(String[] args) {
        sheet();
        numbersOfSheet();
        missing();
        orderOfSheet();
        put();
        lowestBits();
        move();
        moveBounds();
        moveOverlaps();
        moveNothing();
        B.end("SheetsBoundsTest");
    }

    private static void sheet() {
        B.from(Worlds.RICH);
        B.says(42, "SHEETS 0 .. 3");
        B.takes("sheet(0, 8, 1)", 1);
        B.takes("sheet(3, 8, 1)", 1, "put(3, 0, 1)", 1);
        B.refuses("sheet(-1, 8, 1)", Dues.BEYOND);
        B.refuses("sheet(4, 8, 1)", Dues.BEYOND);
        B.refuses("sheet(MIN, 8, 1)", Dues.BEYOND);
        B.says(42, "of so many bits (8, 16, 32; 0: it is missing)");
        for (int bits : new int[] {8, 16, 32}) {
            B.takes("sheet(0, " + bits + ", 2)", 1, "put(0, 1, 1)", 1, "put(0, 2, 1)", Dues.BEYOND);
        }
        for (int bits : new int[] {-32, -8, -1, 1, 7, 9, 15, 17, 24, 31, 33, 64, Integer.MIN_VALUE, Integer.MAX_VALUE}) {
            B.refuses("sheet(0, " + bits + ", 2)", Dues.BEYOND);
        }
    }

    private static void numbersOfSheet() {
        for (int bits : new int[] {8, 16, 32}) {
            B.from(Worlds.RICH);
            B.says(42, "at most 40 numbers of " + bits + " bits");
            B.takes("sheet(0, " + bits + ", 40)", 1, "put(0, 39, 1)", 1, "put(0, 40, 1)", Dues.BEYOND);
            B.takes("sheet(0, " + bits + ", 0)", 1, "put(0, 0, 1)", Dues.BEYOND, "people(0)", 0);
            B.refuses("sheet(0, " + bits + ", 41)", Dues.BEYOND);
            B.refuses("sheet(0, " + bits + ", MAX)", Dues.BEYOND);
            B.says(42, "STATE: n is below 0");
            B.refuses("sheet(0, " + bits + ", -1)", Dues.STATE);
            B.refuses("sheet(0, " + bits + ", MIN)", Dues.STATE);
        }
        B.says(42, "n numbers, all 0");
        B.from(Worlds.EMPTY, "sheet(0, 32, 4)", "put(0, 0, 70)", "put(0, 1, 7)", "put(0, 2, 8)", "sheet(1, 32, 4)");
        B.takes("people(0)", 1, "sheet(0, 32, 4)", 1, "put(0, 0, 70)", 1, "put(0, 2, 8)", 1, "people(0)", 1, "ofPerson(1, 1)", 0);
        B.says(42, "fewer numbers and more again: what stood there is 0");
        B.takes("sheet(0, 32, 1)", 1, "sheet(0, 32, 4)", 1, "put(0, 0, 70)", 1, "put(0, 2, 8)", 1, "people(0)", 1, "ofPerson(0, 1)", 0);
    }

    private static void missing() {
        B.says(42, "0: it is missing, n doesn't matter");
        B.from(Worlds.RICH);
        for (String n : new String[] {"0", "1", "40", "41", "-1", "MIN", "MAX"}) {
            B.takes("sheet(0, 0, " + n + ")", 1, "people(0)", Dues.NONE, "put(0, 0, 0)", Dues.NONE);
            B.takes("sheet(3, 0, " + n + ")", 1, "people(3)", Dues.NONE);
        }
        B.refuses("sheet(4, 0, 0)", Dues.BEYOND);
        B.refuses("sheet(-1, 0, -1)", Dues.BEYOND);
        B.says(42, "one that was missing is all 0");
        B.takes("sheet(0, 0, 0)", 1, "sheet(0, 16, 4)", 1, "put(0, 0, 70)", 1, "put(0, 2, 8)", 1, "people(0)", 1, "ofPerson(7, 1)", 0);
    }

    private static void orderOfSheet() {
        B.from(Worlds.RICH);
        B.says(42, "BEYOND. STATE: n is below 0 (ahead of BEYOND of n).");
        B.refuses("sheet(4, 8, -1)", Dues.BEYOND);
        B.refuses("sheet(0, 7, -1)", Dues.BEYOND);
        B.refuses("sheet(-1, 7, 41)", Dues.BEYOND);
    }

    private static void put() {
        B.from(Worlds.RICH);
        B.says(43, "BEYOND: no such SHEET");
        B.refuses("put(-1, 0, 5)", Dues.BEYOND);
        B.refuses("put(4, 0, 5)", Dues.BEYOND);
        B.refuses("put(MAX, 0, 5)", Dues.BEYOND);
        B.says(43, "NONE: it is missing");
        B.refuses("put(3, 0, 5)", Dues.NONE);
        B.says(43, "BEYOND: no such number");
        B.takes("put(0, 0, 71)", 1, "people(0)", 2, "ofPerson(7, 0)", 71);
        B.takes("put(0, 8, 5)", 1);
        B.refuses("put(0, -1, 5)", Dues.BEYOND);
        B.refuses("put(0, 9, 5)", Dues.BEYOND);
        B.refuses("put(0, MIN, 5)", Dues.BEYOND);
        B.refuses("put(0, MAX, 5)", Dues.BEYOND);
        B.refuses("put(1, 5, 5)", Dues.BEYOND);
        B.says(43, "NONE ahead of BEYOND: no such number");
        B.refuses("put(3, -1, 5)", Dues.NONE);
        B.refuses("put(3, 40, 5)", Dues.NONE);
        B.from(Worlds.RICH, "sheet(0, 8, 0)");
        B.says(43, "a SHEET without numbers");
        B.refuses("put(0, 0, 5)", Dues.BEYOND);
    }

    /** A sheet with someone of strength 5, weight to be put. */
    private static String[] bits(int bits) {
        return new String[] {"sheet(0, " + bits + ", 4)", "put(0, 0, 50)", "put(0, 1, 5)", "put(0, 2, 6)", "put(0, 3, 1)"};
    }

    private static void comes(String put, int weight) {
        if (weight < 0) {
            B.takes(put, 1, "people(0)", 0);
        } else {
            B.takes(put, 1, "people(0)", 1, "ofPerson(0, 0)", weight, "ofPerson(0, 1)", 5, "ofPerson(0, 3)", 1);
        }
    }

    private static void lowestBits() {
        B.says(43, "Number i of a SHEET becomes v (its lowest bits): 8");
        B.from(bits(8));
        comes("put(0, 0, 127)", 127);
        comes("put(0, 0, 128)", -1);
        comes("put(0, 0, 255)", -1);
        comes("put(0, 0, 286)", 30);
        comes("put(0, 0, -226)", 30);
        comes("put(0, 0, -227)", -1);
        comes("put(0, 0, MAX)", -1);
        B.says(43, "its lowest bits: 16");
        B.from(bits(16));
        comes("put(0, 0, 300)", 300);
        comes("put(0, 0, 65836)", 300);
        comes("put(0, 0, -65236)", 300);
        comes("put(0, 0, 65837)", -1);
        comes("put(0, 0, 32767)", -1);
        comes("put(0, 0, 32768)", -1);
        B.says(43, "its lowest bits: all 32");
        B.from(bits(32));
        comes("put(0, 0, 300)", 300);
        comes("put(0, 0, 65836)", -1);
        comes("put(0, 0, 286)", 286);
        comes("put(0, 0, MIN)", -1);
        B.says(43, "a GUIDE's lowest bits");
        B.from(bits(8));
        B.takes("put(0, 3, 256)", 1, "people(0)", 1, "ofPerson(0, 3)", 0);
        B.takes("put(0, 3, 257)", 1, "people(0)", 1, "ofPerson(0, 3)", 1);
        B.takes("put(0, 3, 258)", 1, "people(0)", 0);
    }

    private static void move() {
        B.from(Worlds.RICH);
        B.says(44, "BEYOND: no such SHEET");
        B.refuses("move(-1, 0, 0, 0, 1)", Dues.BEYOND);
        B.refuses("move(4, 0, 0, 0, 1)", Dues.BEYOND);
        B.refuses("move(0, 0, -1, 0, 1)", Dues.BEYOND);
        B.refuses("move(0, 0, 4, 0, 1)", Dues.BEYOND);
        B.says(44, "NONE: one is missing");
        B.refuses("move(3, 0, 0, 0, 1)", Dues.NONE);
        B.refuses("move(0, 0, 3, 0, 1)", Dues.NONE);
        B.refuses("move(3, 0, 3, 0, 0)", Dues.NONE);
        B.says(44, "KIND: they are of unlike bits");
        B.refuses("move(0, 0, 1, 0, 1)", Dues.KIND);
        B.refuses("move(1, 0, 0, 0, 1)", Dues.KIND);
        B.refuses("move(0, 0, 1, 0, 0)", Dues.KIND);
        B.from(Worlds.RICH, "sheet(3, 32, 9)");
        B.refuses("move(0, 0, 3, 0, 4)", Dues.KIND);
        B.refuses("move(3, 0, 1, 0, 4)", Dues.KIND);
        B.says(44, "BEYOND. NONE. KIND. BEYOND.");
        B.from(Worlds.RICH);
        B.refuses("move(3, 0, 4, 0, 1)", Dues.BEYOND);
        B.refuses("move(-1, 0, 3, 0, 1)", Dues.BEYOND);
        B.refuses("move(3, -1, 1, 0, 1)", Dues.NONE);
        B.refuses("move(0, 0, 3, 0, -1)", Dues.NONE);
        B.refuses("move(0, -1, 1, 0, 1)", Dues.KIND);
        B.refuses("move(0, 0, 1, 99, 1)", Dues.KIND);
        B.refuses("move(0, 0, 1, 0, MIN)", Dues.KIND);
    }

    private static void moveBounds() {
        B.from(Worlds.RICH);
        B.says(44, "BEYOND: n, i, or j is below 0");
        B.refuses("move(0, 0, 2, 0, -1)", Dues.BEYOND);
        B.refuses("move(0, -1, 2, 0, 1)", Dues.BEYOND);
        B.refuses("move(0, 0, 2, -1, 1)", Dues.BEYOND);
        B.refuses("move(0, -1, 2, 0, 0)", Dues.BEYOND);
        B.refuses("move(0, 0, 2, -1, 0)", Dues.BEYOND);
        B.refuses("move(0, MIN, 2, MIN, MIN)", Dues.BEYOND);
        B.says(44, "or they don't stand there");
        B.takes("move(0, 5, 2, 0, 4)", 4);
        B.refuses("move(0, 6, 2, 0, 4)", Dues.BEYOND);
        B.takes("move(0, 8, 2, 3, 1)", 1);
        B.refuses("move(0, 9, 2, 3, 1)", Dues.BEYOND);
        B.refuses("move(0, 8, 2, 4, 1)", Dues.BEYOND);
        B.takes("move(0, 0, 2, 0, 4)", 4);
        B.refuses("move(0, 0, 2, 0, 5)", Dues.BEYOND);
        B.refuses("move(0, 0, 2, 1, 4)", Dues.BEYOND);
        B.takes("move(2, 0, 0, 5, 4)", 4);
        B.refuses("move(2, 0, 0, 6, 4)", Dues.BEYOND);
        B.refuses("move(2, 0, 0, 0, 5)", Dues.BEYOND);
        B.takes("move(0, 0, 0, 0, 9)", 9);
        B.refuses("move(0, 0, 0, 0, 10)", Dues.BEYOND);
        B.says(44, "sums that would go round");
        B.refuses("move(0, 1, 2, 0, MAX)", Dues.BEYOND);
        B.refuses("move(0, MAX, 2, 0, 1)", Dues.BEYOND);
        B.refuses("move(0, 0, 2, MAX, 1)", Dues.BEYOND);
        B.refuses("move(0, MAX, 2, MAX, MAX)", Dues.BEYOND);
    }

    private static void moveOverlaps() {
        B.says(44, "(or the same), from its number j on, as they all were");
        String[] row = {"sheet(0, 16, 8)", "put(0, 0, 50)", "put(0, 1, 51)", "put(0, 2, 52)", "put(0, 3, 1)", "put(0, 4, 54)", "put(0, 5, 55)"};
        B.from(row);
        B.takes("move(0, 0, 0, 1, 4)", 4, "people(0)", 0, "put(0, 3, 1)", 1, "people(0)", 1, "ofPerson(0, 0)", 50, "ofPerson(0, 1)", 50,
            "ofPerson(0, 2)", 51);
        B.takes("move(0, 1, 0, 0, 5)", 5, "put(0, 2, 6)", 1, "put(0, 3, 0)", 1, "people(0)", 1, "ofPerson(0, 0)", 51, "ofPerson(0, 1)", 52);
        B.says(44, "n numbers of a SHEET, from number i on: those alone");
        B.from(row, "sheet(1, 16, 8)", "put(1, 0, 90)", "put(1, 1, 91)", "put(1, 2, 9)", "put(1, 3, 1)");
        B.takes("move(0, 1, 1, 1, 1)", 1, "people(1)", 1, "ofPerson(0, 0)", 90, "ofPerson(0, 1)", 51, "ofPerson(0, 2)", 9);
        B.takes("move(0, 0, 1, 0, 2)", 2, "people(1)", 1, "ofPerson(0, 0)", 50, "ofPerson(0, 1)", 51, "ofPerson(0, 2)", 9);
        B.takes("move(0, 1, 1, 2, 1)", 1, "people(1)", 1, "ofPerson(0, 1)", 91, "ofPerson(0, 2)", 51);
    }

    private static void moveNothing() {
        B.from(Worlds.RICH);
        B.says(44, "n 0: none come");
        B.takes("move(0, 0, 2, 0, 0)", 0, "people(2)", 1, "ofPerson(7, 0)", 90);
        B.takes("move(0, 9, 2, 4, 0)", 0);
        B.refuses("move(0, 10, 2, 4, 0)", Dues.BEYOND);
        B.refuses("move(0, 9, 2, 5, 0)", Dues.BEYOND);
        B.from(Worlds.RICH, "sheet(3, 16, 0)");
        B.takes("move(3, 0, 3, 0, 0)", 0);
        B.refuses("move(3, 0, 3, 0, 1)", Dues.BEYOND);
        B.refuses("move(0, 0, 3, 0, 1)", Dues.BEYOND);
    }
}
