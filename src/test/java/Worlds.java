import java.util.ArrayList;
import java.util.Arrays;
import java.util.List;

/** Calls that make objects, as Script reads them. */
final class Worlds {

    static final String[] EMPTY = {};

    /**
     * Something of all that there is. Seven people: 1, 0, 2 on rope 0; 3, 4 on rope 1; 6 on rope 3; 5 on
     * none. Three pieces. Ropes 0, 2 (without people), 1 in the line, 3 not. Sheets 0 and 2 of 16 bits,
     * 1 of 8, 3 missing. An image of less than that. What was refused was so ahead of most of it.
     */
    static final String[] RICH = {
        "start(-1)", "start(-1)", "trace(99)", "rope(5, 5, 2)", "as(0, 1)",
        "person(100, 150, 20, 0)", "person(230, 300, 15, 1)", "piece(0, 90, 3, 10)",
        "tie(0, 1)", "tie(0, 0)", "join(0)", "join(0)", "join(0)", "join(0)",
        "start(30)", "seed(5)", "tape w+d", "text(1)", "tape 5*h+w", "tell(1)", "image()",
        "text(0)", "check()",
        "person(60, 40, 30, 0)", "person(90, 90, 10, 1)", "person(75, 500, 25, 1)", "person(120, 20, 40, 0)",
        "person(80, 80, 12, 0)", "piece(5, 60, 20, 40)", "piece(-5, 200, 0, 1)",
        "rope(1, 10, 3)", "rope(6, 1, 9)", "rope(3, 4, 9)",
        "tie(0, 2)", "tie(1, 3)", "tie(1, 4)", "tie(3, 6)", "join(2)", "join(1)",
        "tape w+s*h+20*b-l", "text(0)", "tape w*d/(p+2)+n", "text(1)", "tape w*7+h*3-b",
        "tell(1)", "tell(0)", "tell(2)", "tell(3)", "tell(4)", "voice(1, 3, 4)", "seed(77)", "start(200)",
        "sheet(0, 16, 9)", "put(0, 0, 70)", "put(0, 1, 7)", "put(0, 2, 8)", "put(0, 3, 1)",
        "put(0, 4, 60)", "put(0, 5, 50)", "put(0, 6, 9)", "put(0, 8, 44)",
        "sheet(1, 8, 5)", "put(1, 0, 50)", "put(1, 1, 60)", "put(1, 2, 7)", "put(1, 3, 1)", "put(1, 4, 33)",
        "sheet(2, 16, 4)", "put(2, 0, 90)", "put(2, 1, 80)", "put(2, 2, 7)",
    };

    /** What leads from one person to as much as there may be. */
    private static final String[] TO_FULL = {
        "person(230, 300, 15, 1)", "person(60, 40, 30, 0)", "person(90, 90, 10, 1)",
        "person(75, 500, 25, 1)", "person(120, 20, 40, 0)", "person(80, 80, 12, 0)", "person(81, 82, 13, 1)",
        "person(82, 84, 14, 0)", "person(83, 86, 15, 0)",
        "piece(0, 90, 3, 10)", "piece(5, 60, 20, 40)", "piece(-5, 200, 0, 1)", "piece(1, 10, 1, 2)",
        "piece(2, 20, 2, 3)", "piece(3, 30, 3, 4)", "piece(4, 40, 4, 5)", "piece(-1, 50, 5, 6)",
        "rope(0, 5, 2)", "rope(4, 10, 3)", "rope(6, 1, 9)", "rope(3, 4, 9)", "rope(1, 4, 9)", "rope(2, 3, 8)",
        "tie(0, 0)", "tie(0, 1)", "tie(0, 2)", "tie(0, 3)", "tie(0, 4)",
        "tie(1, 5)", "tie(1, 6)", "tie(1, 7)", "tie(1, 8)",
        "join(3)", "join(1)", "join(5)", "join(0)", "join(2)", "join(4)",
        "tape w" + "+1".repeat(23) + "+10",
        "tell(5)", "tell(6)", "tell(7)", "tell(8)", "tell(0)", "tell(1)", "tell(2)", "tell(3)", "tell(4)",
        "tell(0)", "tell(0)", "tell(0)", "tell(0)", "tell(0)", "tell(0)", "tell(0)", "tell(0)", "tell(0)",
        "tell(0)", "tell(0)", "voice(3, 1, 9)", "sheet(2, 16, 4)", "put(2, 0, 90)", "put(2, 1, 80)", "put(2, 2, 7)",
        "sheet(3, 32, 40)", "put(3, 0, 70)", "put(3, 2, 8)",
    };

    /**
     * As much as there may be. Ten people: 0 to 4 on rope 0, 5 to 8 on rope 1, 9 on none. Eight pieces,
     * six ropes, all in the line; 50 bytes; 20 numbers that wait; a sheet of 40 numbers; an image of little.
     */
    static final String[] FULL = with(new String[] {
        "person(100, 150, 20, 0)", "tape w+l*3", "text(0)", "tape d*2+p", "text(1)", "image()",
    }, TO_FULL);

    /** The same with an image of nothing and without texts. */
    static final String[] FULL_FROM_NOTHING = with(new String[] {"image()", "person(100, 150, 20, 0)"}, TO_FULL);

    private Worlds() {
    }

    static String[] without(String[] world, String call) {
        List<String> rest = new ArrayList<>(List.of(world));
        rest.remove(call);
        return rest.toArray(new String[0]);
    }

    /** So often the same call. */
    static String[] times(int n, String call) {
        String[] calls = new String[n];
        Arrays.fill(calls, call);
        return calls;
    }

    static String[] with(String[] world, String... further) {
        String[] all = Arrays.copyOf(world, world.length + further.length);
        System.arraycopy(further, 0, all, world.length, further.length);
        return all;
    }
}
