/** Promises 37 to 39: mornings by draws. */
public final class MorningsTest {

    private static final Dues DUES = new Dues();
    // z behind each of the first draws from 1; their rests by 1000 are 654, 832, 156, 603, 887, 236.
    private static final int[] Z = {1, 1103527590, -1770082073, 662824084, -999580867};

    public static void main(String[] args) {
        bare();
        wholeRope();
        heldOnes();
        oneRopeBehindTheOther();
        risksOfTheWhole();
        mornings();
        seed();
        DUES.end("MorningsTest");
    }

    private static void due(String call, int got, int want) {
        DUES.due(call, got, want);
    }

    private static RopesAtDawn made(String text, int pieces, int strength, int people, int kind) {
        RopesAtDawn x = new RopesAtDawn();
        Dues.text(x, 0, text);
        for (int i = 0; i < pieces; i++) {
            x.piece(0, 0, 0, 1);
        }
        x.rope(kind, 1, 0);
        x.join(0);
        for (int i = 0; i < people; i++) {
            x.person(100, strength, 10, 0);
            x.tie(0, i);
        }
        return x;
    }

    private static void bare() {
        RopesAtDawn x = made("655", 2, 0, 2, 6);
        due("37: 654 and 156 are below", x.morning(), 3);
        due("37: the lost don't draw", x.count(8), Z[3]);
        x = made("654", 2, 0, 2, 6);
        due("37: 654 isn't below", x.morning(), 3);
        due("37: four draws", x.count(8), Z[4]);
        x = made("157", 2, 0, 2, 6);
        due("37: 156 alone is below", x.morning(), 1);
        due("37: ropes stay as they are", x.ofRope(0, 3), 2);
        x = made("156", 2, 0, 2, 6);
        due("37: none is below", x.morning(), 0);
    }

    private static void wholeRope() {
        for (int kind = 0; kind < 6; kind++) {
            RopesAtDawn x = made("655", 2, 0, 3, kind);
            due("37: all on it", x.morning(), 7);
            due("37: one draw", x.count(8), Z[1]);
            due("37: ropes stay as they are", x.ofRope(0, 3), 3);
        }
    }

    private static void heldOnes() {
        RopesAtDawn x = made("1000", 2, 300, 2, 0);
        due("37: held", x.morning(), 0);
        due("37: all draw", x.count(8), Z[4]);
        x = made("1000", 2, 300, 1, 0);
        due("37: nobody holds", x.morning(), 1);
    }

    private static void oneRopeBehindTheOther() {
        RopesAtDawn x = made("655", 2, 0, 2, 0);
        x.rope(6, 1, 0);
        x.person(100, 0, 10, 0);
        x.tie(1, 2);
        x.clear();
        x.join(1);
        due("37: only who is in the line", x.morning(), 4);
        x.seed(1);
        x.join(0);
        // Person 2 draws 654; then 0 draws 832 and 1 draws 156.
        due("37: as the line goes", x.morning(), 7);
        due("37: three draws", x.count(8), Z[3]);
        x.clear();
        due("37: nobody", x.morning(), 0);
        due("37: no draw", x.count(8), Z[3]);
    }

    private static void risksOfTheWhole() {
        RopesAtDawn x = made("1000*(b=0|b=2)", 2, 0, 3, 6);
        due("37: who went ahead counts, lost or not", x.morning(), 5);
        due("37: four draws", x.count(8), Z[4]);
    }

    private static void mornings() {
        RopesAtDawn x = made("655", 1, 0, 1, 0);
        // Rests 654, 832, 156, 603, 887, 236, 350, 46, 68, 229.
        due("38: nobody lost", x.mornings(10, 0), 2);
        x.seed(1);
        due("38: lost in all", x.mornings(10, 1), 8);
        x = made("655", 1, 0, 3, 0);
        due("38: three each", x.mornings(1, 1), 3);
        due("38: m 40", x.mornings(40, 0) < 40 ? 1 : 0, 1);
        int z = x.count(8);
        due("38: m 0", x.mornings(0, 0), Dues.BEYOND);
        due("38: m 41", x.mornings(41, 0), Dues.BEYOND);
        due("38: what 2", x.mornings(1, 2), Dues.BEYOND);
        due("38: what -1", x.mornings(1, -1), Dues.BEYOND);
        due("38: no draw", x.count(8), z);
        due("38: without anybody", new RopesAtDawn().mornings(40, 0), 40);
        due("38: without anybody", new RopesAtDawn().mornings(40, 1), 0);
    }

    private static void seed() {
        RopesAtDawn x = new RopesAtDawn();
        due("39: at first", x.seed(Dues.BEYOND), 1);
        due("39: any number", x.seed(Integer.MIN_VALUE), Dues.BEYOND);
        due("39: that was no error", x.told(1), 0);
        due("39: any number", x.seed(0), Integer.MIN_VALUE);
        due("39: count(8)", x.count(8), 0);
    }
}
