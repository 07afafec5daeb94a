/** Promises 42 to 44: sheets. What stands on them shows in who comes from them (promise 4). */
public final class SheetsTest {

    private static final Dues DUES = new Dues();

    public static void main(String[] args) {
        sheet();
        put();
        move();
        moveErrors();
        DUES.end("SheetsTest");
    }

    private static void due(String call, int got, int want) {
        DUES.due(call, got, want);
    }

    private static void sheet() {
        RopesAtDawn x = new RopesAtDawn();
        for (int bits = 8; bits <= 32; bits *= 2) {
            due("42: sheet", x.sheet(3, bits, 40), 1);
            due("42: its last", x.put(3, 39, 1), 1);
            due("42: behind its last", x.put(3, 40, 1), Dues.BEYOND);
        }
        due("42: without numbers", x.sheet(0, 8, 0), 1);
        due("42: it isn't missing", x.put(0, 0, 1), Dues.BEYOND);
        due("42: n 41", x.sheet(0, 8, 41), Dues.BEYOND);
        due("42: n -1", x.sheet(0, 8, -1), Dues.STATE);
        due("42: no such sheet ahead of n -1", x.sheet(4, 8, -1), Dues.BEYOND);
        due("42: no such sheet", x.sheet(-1, 8, 1), Dues.BEYOND);
        due("42: bits 7 ahead of n -1", x.sheet(0, 7, -1), Dues.BEYOND);
        due("42: bits 64", x.sheet(0, 64, 1), Dues.BEYOND);
        due("42: bits -8", x.sheet(0, -8, 1), Dues.BEYOND);
        due("42: it stays", x.people(0), 0);
        due("42: missing, n doesn't matter", x.sheet(0, 0, -7), 1);
        due("42: it is missing", x.people(0), Dues.NONE);
        due("42: missing, n doesn't matter", x.sheet(3, 0, 99), 1);
        due("42: it is missing", x.put(3, 0, 0), Dues.NONE);
        due("42: missing again", x.sheet(3, 0, 0), 1);
        fill(x, 1, 32, 70, 7, 8, 1);
        due("42: there", x.people(1), 1);
        x.sheet(1, 32, 4);
        due("42: all 0 again", x.people(1), 0);
    }

    private static void fill(RopesAtDawn x, int sheet, int bits, int... numbers) {
        x.sheet(sheet, bits, numbers.length);
        for (int i = 0; i < numbers.length; i++) {
            x.put(sheet, i, numbers[i]);
        }
    }

    private static void put() {
        RopesAtDawn x = new RopesAtDawn();
        due("43: missing", x.put(0, 0, 0), Dues.NONE);
        due("43: missing ahead of no such number", x.put(0, -1, 0), Dues.NONE);
        due("43: no such sheet", x.put(4, 0, 0), Dues.BEYOND);
        due("43: no such sheet", x.put(-1, 0, 0), Dues.BEYOND);
        x.sheet(0, 8, 2);
        due("43: number 1", x.put(0, 1, Integer.MIN_VALUE), 1);
        due("43: number 2", x.put(0, 2, 0), Dues.BEYOND);
        due("43: number -1", x.put(0, -1, 0), Dues.BEYOND);
    }

    /** Who comes from a sheet must be so. */
    private static void comes(RopesAtDawn x, int sheet, int... four) {
        int person = x.count(1);
        due("44: who comes", x.people(sheet) > 0 ? 1 : 0, 1);
        for (int what = 0; what < 4; what++) {
            due("44: number " + what, x.ofPerson(person, what), four[what]);
        }
    }

    private static void move() {
        RopesAtDawn x = new RopesAtDawn();
        fill(x, 0, 16, 5, 100, 20, 30, 1, 6);
        x.sheet(1, 16, 4);
        due("44: to another one", x.move(0, 1, 1, 0, 4), 4);
        comes(x, 1, 100, 20, 30, 1);
        due("44: ahead on the same", x.move(0, 1, 0, 0, 4), 4);
        comes(x, 0, 100, 20, 30, 1);
        fill(x, 2, 32, 50, 40, 1, 1, 7);
        due("44: behind on the same, as they all were", x.move(2, 0, 2, 1, 4), 4);
        comes(x, 2, 50, 50, 40, 1);
        due("44: none", x.move(0, 6, 1, 4, 0), 0);
        due("44: all onto themselves", x.move(0, 0, 0, 0, 6), 6);
    }

    private static void moveErrors() {
        RopesAtDawn x = new RopesAtDawn();
        x.sheet(0, 16, 5);
        x.sheet(1, 16, 3);
        x.sheet(2, 8, 5);
        due("44: no such sheet", x.move(4, 0, 0, 0, 1), Dues.BEYOND);
        due("44: no such other ahead of missing", x.move(3, 0, -1, 0, 1), Dues.BEYOND);
        due("44: missing", x.move(3, 0, 0, 0, 1), Dues.NONE);
        due("44: the other missing, ahead of places", x.move(0, -1, 3, 0, 1), Dues.NONE);
        due("44: unlike bits, ahead of places", x.move(0, 9, 2, 0, -1), Dues.KIND);
        due("44: n -1", x.move(0, 0, 1, 0, -1), Dues.BEYOND);
        due("44: i -1", x.move(0, -1, 1, 0, 1), Dues.BEYOND);
        due("44: j -1", x.move(0, 0, 1, -1, 1), Dues.BEYOND);
        due("44: behind the first", x.move(0, 3, 1, 0, 3), Dues.BEYOND);
        due("44: behind the other", x.move(0, 0, 1, 1, 3), Dues.BEYOND);
        due("44: none behind the first", x.move(0, 6, 1, 0, 0), Dues.BEYOND);
        due("44: none behind the other", x.move(0, 0, 1, 4, 0), Dues.BEYOND);
        due("44: far", x.move(0, 1, 1, 1, Integer.MAX_VALUE), Dues.BEYOND);
        due("44: far", x.move(0, Integer.MAX_VALUE, 1, 1, 1), Dues.BEYOND);
        due("44: far", x.move(0, 1, 1, Integer.MAX_VALUE, 1), Dues.BEYOND);
        due("44: all of the shorter", x.move(0, 2, 1, 0, 3), 3);
    }
}
