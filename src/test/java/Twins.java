/**
 * Two objects made alike, one of which was asked for a call that it refused: nothing that can be asked of
 * them tells one from the other, but for what told() tells.
 */
final class Twins {

    private static final int ERRORS = 5;
    private static final int LOW = -1000000000;

    private final Dues dues;
    private final String words;
    private final Script asked;
    private final Script other;

    private Twins(Dues dues, String words, String... world) {
        this.dues = dues;
        this.words = words;
        asked = new Script(world);
        other = new Script(world);
    }

    /** A call is refused with an error, is counted as that, and has changed nothing else. */
    static void refuse(Dues dues, String words, String[] world, String call, int error) {
        // New twins for each, and what can't be refused first: a call that is refused to both would hide a change.
        refused(dues, words, world, call, error).askWhatIsShown();
        refused(dues, words, world, call, error).askTexts();
        refused(dues, words, world, call, error).askSheets();
        refused(dues, words, world, call, error).askImage();
    }

    private static Twins refused(Dues dues, String words, String[] world, String call, int error) {
        Twins twins = new Twins(dues, words + ": " + call, world);
        twins.refuse(call, error);
        return twins;
    }

    private void refuse(String call, int error) {
        dues.due(words, asked.call(call), error);
        for (int k = 1; k <= ERRORS; k++) {
            int more = LOW - k == error ? 1 : 0;
            dues.due(words + ", then told(" + k + ")", asked.call("told(" + k + ")"), other.call("told(" + k + ")") + more);
        }
    }

    private int same(String name, int... a) {
        StringBuilder call = new StringBuilder(name).append('(');
        for (int i = 0; i < a.length; i++) {
            call.append(i > 0 ? ", " : "").append(a[i]);
        }
        call.append(')');
        int want = other.call(call.toString());
        dues.due(words + ", then " + call, asked.call(call.toString()), want);
        return want;
    }

    private void askAll(String name, int rows, int columns) {
        for (int row = 0; row < rows; row++) {
            for (int column = 0; column < columns; column++) {
                same(name, row, column);
            }
        }
    }

    private void askState() {
        for (int what = 0; what <= 8; what++) {
            same("count", what);
        }
        askAll("ofPerson", same("count", 1), 6);
        askAll("ofPiece", same("count", 2), 4);
        askAll("ofRope", same("count", 3), 10);
        for (int use = 0; use < 2; use++) {
            same("law", use, 90, 3, 2, 30);
            same("law", use, 200, 1, 7, 1);
        }
    }

    private void askWhatIsShown() {
        askState();
        int bodies = same("count", 7);
        for (int i = 0; i < bodies; i++) {
            same("trace", i);
        }
        int people = same("count", 1);
        for (int person = 0; person < people; person++) {
            same("hold", person);
            same("lead", person);
            same("cost", person, 0);
            same("haul", person, 0);
            same("risk", person, 0);
        }
        int ropes = same("count", 3);
        for (int rope = 0; rope < ropes; rope++) {
            same("when", rope, 0, 1);
            same("order", rope, -1);
            same("space", rope);
        }
        same("line", -1);
        same("left");
        same("over");
        same("toll");
    }

    /** The tape's bytes show in the text that they make, z in a morning. */
    private void askTexts() {
        same("morning");
        same("seed", 3);
        same("text", 0);
        same("count", 5);
        same("law", 0, 90, 3, 2, 30);
        same("law", 0, 20, 1, 7, 1);
        same("check");
        same("count", 6);
    }

    /** What stands on sheets shows in who comes from them, how long they are in moves of nothing. */
    private void askSheets() {
        askComers();
        same("restore");
        askComers();
        for (int sheet = 0; sheet < 4; sheet++) {
            for (int to = 0; to < 4; to++) {
                same("move", sheet, 0, to, 0, 0);
            }
            int size = 0;
            while (size <= 40 && same("move", sheet, size, sheet, size, 0) == 0) {
                size++;
            }
        }
    }

    private void askComers() {
        for (int sheet : new int[] {2, 0, 1, 3}) {
            same("people", sheet);
        }
        askAll("ofPerson", same("count", 1), 4);
    }

    private void askImage() {
        same("restore");
        askState();
        askTexts();
        same("image");
    }
}
