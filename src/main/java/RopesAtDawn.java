import java.util.Arrays;

/** Ropes over a glacier's bridges of snow: what they risk, and how they had better go. */
public final class RopesAtDawn {

    private static final int LOW = -1000000000;
    private static final int BEYOND = LOW - 1;
    private static final int NONE = LOW - 2;
    private static final int STATE = LOW - 3;
    private static final int FULL = LOW - 4;
    private static final int KIND = LOW - 5;
    private static final int ERROR_KINDS = 5;
    private static final int ABOVE_ALL = 2147483647;

    private static final int MOST_PEOPLE = 10;
    private static final int MOST_PIECES = 8;
    private static final int MOST_ROPES = 6;
    private static final int MOST_ON_ROPE = 5;
    private static final int MOST_ORDERS_ON_ROPE = 120;
    private static final int MOST_ORDERS_OF_LINE = 720;
    private static final int MOST_SPACE = 20;
    private static final int LAST_MINUTE = 1439;
    private static final int FIRST_START = 60;
    private static final int LATEST_ASKED = 9999;
    private static final int MOST_MORNINGS = 40;
    private static final int THOUSAND = 1000;
    private static final int MOST_BYTES = 50;
    private static final int MOST_OPEN = 5;
    private static final int MOST_WAITING = 20;
    private static final int MOST_SHEETS = 4;
    private static final int MOST_NUMBERS = 40;
    private static final int MOST_TRACED = 40;

    private static final int FOUR = 4;
    private static final int[] PERSON_LEAST = {30, 0, 1, 0};
    private static final int[] PERSON_MOST = {300, 999, 60, 1};
    private static final int[] PIECE_LEAST = {-5, 0, 0, 1};
    private static final int[] PIECE_MOST = {5, 999, 99, 40};
    // A rope has three numbers alone: its fourth one stays 0.
    private static final int[] ROPE_LEAST = {0, 1, 0, 0};
    private static final int[] ROPE_MOST = {6, 20, 9, 0};

    private static final int WEIGHT = 0;
    private static final int STRENGTH = 1;
    private static final int PACE = 2;
    private static final int GUIDE = 3;

    private static final int STEEP = 0;
    private static final int BEARS = 1;
    private static final int SOFT = 2;
    private static final int DEEP = 3;

    private static final int ROPE_KIND = 0;
    private static final int SPACE = 1;
    private static final int KNOTS = 2;

    private static final int PAIR = 1;
    private static final int THREE = 2;
    private static final int LONG = 3;
    private static final int LED = 4;
    private static final int SWEPT = 5;
    private static final int BARE = 6;
    private static final int KINDS = 7;
    private static final int[] KIND_ABOVE = {-1, 0, 0, 2, 0, 4, 0};

    private static final int RISK_USE = 0;
    private static final int HAUL_USE = 1;
    private static final String RISK_NAMES = "whbls";
    private static final String HAUL_NAMES = "wdpn";
    private static final int MOST_NAMES = 5;
    private static final int MOST_RISK = 1000;
    private static final int MOST_HAUL = 999;

    // A text is kept as codes, each number and name ahead of the operator that takes it:
    // numbers stand for themselves (four digits at most), names and operators above them.
    private static final int NAME_CODE = 10000;
    private static final int OPERATOR_CODE = 20000;
    private static final int COMPARING = 2;
    private static final int FACTORS = 5;
    private static final int MOST_DIGITS = 4;

    private static final int HOLDS = 0;
    private static final int PARTS = 1;
    private static final int LEADS = 2;
    private static final int TELLS = 3;
    private static final int ACTS = 4;
    private static final int DEEPEST_VOICE = 30;
    // The bodies of each kind, kinds in rows and acts in columns; 0 where a kind has none.
    private static final int[] BODIES = {
        10, 11, 12, 13,
        0, 20, 0, 0,
        30, 0, 0, 0,
        41, 0, 40, 0,
        0, 0, 0, 50,
        60, 0, 0, 61,
        0, 70, 71, 0,
    };

    private final Dawn now = new Dawn();
    private final Crossing crossing = new Crossing();
    private final Chooser chooser = new Chooser();
    private final Reader reader = new Reader();
    private final Voices voices = new Voices();
    private final Sheet[] sheets = new Sheet[MOST_SHEETS];
    private final int[] errors = new int[ERROR_KINDS + 1];
    private Dawn kept = null;
    private int images = 0;

    public RopesAtDawn() {
        for (int i = 0; i < sheets.length; i++) {
            sheets[i] = new Sheet();
        }
    }

    // ---- people, pieces

    public int person(int weight, int strength, int pace, int guide) {
        return newFour(now.people, weight, strength, pace, guide);
    }

    public int ofPerson(int person, int what) {
        if (!now.people.has(person) || what < 0 || what > 5) {
            return fail(BEYOND);
        }
        if (what < FOUR) {
            return now.people.get(person, what);
        }
        return what == FOUR ? now.ropeOf(person) : now.placeOf(person);
    }

    public int people(int sheet) {
        Sheet from = sheetOf(sheet);
        if (from == null) {
            return fail(BEYOND);
        }
        if (from.isMissing()) {
            return fail(NONE);
        }
        int came = 0;
        for (int i = 0; i + FOUR <= from.size(); i += FOUR) {
            int weight = from.at(i);
            int strength = from.at(i + 1);
            int pace = from.at(i + 2);
            int guide = from.at(i + 3);
            if (now.people.isFull() || !now.people.fits(weight, strength, pace, guide)) {
                break;
            }
            now.people.add(weight, strength, pace, guide);
            came++;
        }
        return came;
    }

    public int piece(int steep, int bears, int soft, int deep) {
        return newFour(now.pieces, steep, bears, soft, deep);
    }

    public int ofPiece(int piece, int what) {
        if (!now.pieces.has(piece) || what < 0 || what >= FOUR) {
            return fail(BEYOND);
        }
        return now.pieces.get(piece, what);
    }

    public int start(int minute) {
        if (!isMinute(minute)) {
            return fail(BEYOND);
        }
        int was = now.start;
        now.start = minute;
        return was;
    }

    // ---- ropes

    public int rope(int kind, int space, int knots) {
        return newFour(now.ropes, kind, space, knots, 0);
    }

    public int tie(int rope, int person) {
        if (!now.ropes.has(rope) || !now.people.has(person)) {
            return fail(BEYOND);
        }
        if (now.ropeOf(person) >= 0) {
            return fail(STATE);
        }
        Row row = now.rowOf(rope);
        if (row.isFull()) {
            return fail(FULL);
        }
        row.add(person);
        return row.size() - 1;
    }

    public int untie(int person) {
        if (!now.people.has(person)) {
            return fail(BEYOND);
        }
        int rope = now.ropeOf(person);
        if (rope < 0) {
            return fail(NONE);
        }
        now.rowOf(rope).removeAt(now.placeOf(person));
        return rope;
    }

    public int ofRope(int rope, int what) {
        if (!now.ropes.has(rope) || what < 0 || what >= 5 + MOST_ON_ROPE) {
            return fail(BEYOND);
        }
        if (what < 3) {
            return now.ropes.get(rope, what);
        }
        if (what == 3) {
            return now.rowOf(rope).size();
        }
        if (what == 4) {
            return now.line.placeOf(rope);
        }
        return now.rowOf(rope).at(what - 5);
    }

    public int as(int rope, int kind) {
        if (!now.ropes.has(rope) || kind < 0 || kind >= KINDS) {
            return fail(BEYOND);
        }
        if (!isUnder(now.ropes.get(rope, ROPE_KIND), kind)) {
            return fail(KIND);
        }
        return now.ropes.get(rope, KNOTS);
    }

    public int set(int rope, int what, int v) {
        if (!now.ropes.has(rope) || what < 0 || what > 1) {
            return fail(BEYOND);
        }
        int column = what == 0 ? SPACE : KNOTS;
        if (!now.ropes.fitsColumn(column, v)) {
            return fail(BEYOND);
        }
        int was = now.ropes.get(rope, column);
        now.ropes.change(rope, column, v);
        return was;
    }

    public int swap(int one, int other) {
        if (!now.people.has(one) || !now.people.has(other) || one == other) {
            return fail(BEYOND);
        }
        int rope = now.ropeOf(one);
        int otherRope = now.ropeOf(other);
        if (rope < 0 || otherRope < 0) {
            return fail(NONE);
        }
        int place = now.placeOf(one);
        int otherPlace = now.placeOf(other);
        now.rowOf(rope).change(place, other);
        now.rowOf(otherRope).change(otherPlace, one);
        return 1;
    }

    public int hold(int person) {
        if (!now.people.has(person)) {
            return fail(BEYOND);
        }
        int rope = now.ropeOf(person);
        if (rope < 0) {
            return fail(NONE);
        }
        return now.holdAt(rope, now.placeOf(person));
    }

    public int held(int person, int piece) {
        int error = errorOnRope(person, piece);
        if (error < 0) {
            return fail(error);
        }
        return now.isHeld(now.ropeOf(person), now.placeOf(person), piece) ? 1 : 0;
    }

    public int cost(int person, int piece) {
        int error = errorOnRope(person, piece);
        if (error < 0) {
            return fail(error);
        }
        int rope = now.ropeOf(person);
        return now.isHeld(rope, now.placeOf(person), piece) ? 0 : now.lostWithOne(rope);
    }

    public int haul(int person, int piece) {
        int error = errorOnRope(person, piece);
        if (error < 0) {
            return fail(error);
        }
        Row row = now.rowOf(now.ropeOf(person));
        int strengths = 0;
        for (int i = 0; i < row.size(); i++) {
            strengths += now.people.get(row.at(i), STRENGTH);
        }
        int others = strengths - now.people.get(person, STRENGTH);
        Reckoner reckoner = crossing.reckoner;
        reckoner.name(now.people.get(person, WEIGHT), now.pieces.get(piece, DEEP), others, row.size() - 1, 0);
        return reckoner.give(HAUL_USE, now.textOf(HAUL_USE));
    }

    // ---- texts

    public int feed(long word, int n) {
        if (n < 1 || n > 8) {
            return fail(BEYOND);
        }
        if (now.tape.size() + n > MOST_BYTES) {
            return fail(FULL);
        }
        for (int i = 0; i < n; i++) {
            now.tape.add((int) (word >>> (8 * i)) & 255);
        }
        return now.tape.size();
    }

    public int text(int use) {
        if (!isUse(use)) {
            return fail(BEYOND);
        }
        int fault = reader.read(now.tape, use == RISK_USE ? RISK_NAMES : HAUL_NAMES);
        now.tape.empty();
        if (fault >= 0) {
            return -10 - fault;
        }
        now.textOf(use).copyFrom(reader.codes);
        return 1;
    }

    public int law(int use, int a, int b, int c, int d) {
        if (!isUse(use)) {
            return fail(BEYOND);
        }
        crossing.reckoner.name(a, b, c, d, 0);
        return crossing.reckoner.give(use, now.textOf(use));
    }

    // ---- crossings

    public int join(int rope) {
        if (!now.ropes.has(rope)) {
            return fail(BEYOND);
        }
        if (now.isInLine(rope)) {
            return fail(STATE);
        }
        now.line.add(rope);
        return now.line.size() - 1;
    }

    public int clear() {
        int were = now.line.size();
        now.line.empty();
        return were;
    }

    public int when(int rope, int piece, int what) {
        if (!now.ropes.has(rope) || !now.pieces.has(piece) || what < 0 || what > 1) {
            return fail(BEYOND);
        }
        if (!now.isInLine(rope) || now.rowOf(rope).size() == 0) {
            return fail(NONE);
        }
        crossing.cross(now);
        return what == 0 ? crossing.comesTo(rope, piece) : crossing.isOff(rope, piece);
    }

    public int risk(int person, int piece) {
        if (!now.people.has(person) || !now.pieces.has(piece)) {
            return fail(BEYOND);
        }
        int rope = now.ropeOf(person);
        if (!now.isInLine(rope)) {
            return fail(NONE);
        }
        crossing.cross(now);
        return crossing.riskOf(now, rope, person, piece, now.aheadOf(rope) + now.placeOf(person));
    }

    public int over() {
        crossing.cross(now);
        return crossing.over;
    }

    public int toll() {
        return crossing.tollOf(now);
    }

    public int order(int rope, int i) {
        if (!now.ropes.has(rope) || i < -1) {
            return fail(BEYOND);
        }
        if (!now.isInLine(rope)) {
            return fail(STATE);
        }
        if (i >= now.rowOf(rope).size()) {
            return fail(NONE);
        }
        chooser.chooseOrder(now, rope);
        return i < 0 ? chooser.least : chooser.row.at(i);
    }

    public int space(int rope) {
        if (!now.ropes.has(rope)) {
            return fail(BEYOND);
        }
        if (!now.isInLine(rope)) {
            return fail(STATE);
        }
        chooser.chooseSpace(now, rope);
        return chooser.choice;
    }

    public int line(int i) {
        if (i < -1) {
            return fail(BEYOND);
        }
        if (i >= now.line.size()) {
            return fail(NONE);
        }
        chooser.chooseLine(now);
        return i < 0 ? chooser.least : chooser.row.at(i);
    }

    public int parts(int one, int other) {
        if (!now.ropes.has(one) || !now.ropes.has(other) || one == other) {
            return fail(BEYOND);
        }
        if (!now.isInLine(one) || !now.isInLine(other)) {
            return fail(STATE);
        }
        chooser.chooseParts(now, one, other);
        return chooser.choice;
    }

    public int latest(int minute) {
        if (minute < 0 || minute > LATEST_ASKED) {
            return fail(BEYOND);
        }
        crossing.cross(now);
        // All minutes of a crossing go with its start, so it lasts as long whenever it begins.
        int lasts = crossing.over - now.start;
        if (lasts > minute) {
            return fail(NONE);
        }
        return Math.min(LAST_MINUTE, minute - lasts);
    }

    public int best(int from, int to) {
        if (!isMinute(from) || !isMinute(to) || from > to) {
            return fail(BEYOND);
        }
        chooser.chooseStart(now, from, to);
        return chooser.choice;
    }

    public int left() {
        chooser.chooseLeft(now);
        return chooser.choice < 0 ? fail(NONE) : chooser.choice;
    }

    public int lead(int person) {
        if (!now.people.has(person)) {
            return fail(BEYOND);
        }
        if (!now.isInLine(now.ropeOf(person))) {
            return fail(NONE);
        }
        chooser.chooseLead(now, person);
        return chooser.choice;
    }

    public int take(int what, int rope) {
        if (what < 0 || what > 2 || !now.ropes.has(rope)) {
            return fail(BEYOND);
        }
        if (what < 2 && !now.isInLine(rope)) {
            return fail(STATE);
        }
        if (what == 0) {
            chooser.chooseOrder(now, rope);
            now.rowOf(rope).copyFrom(chooser.row);
        } else if (what == 1) {
            chooser.chooseSpace(now, rope);
            now.ropes.change(rope, SPACE, chooser.choice);
        } else {
            chooser.chooseLine(now);
            now.line.copyFrom(chooser.row);
        }
        return chooser.least;
    }

    public int morning() {
        return runMorning();
    }

    public int mornings(int m, int what) {
        if (m < 1 || m > MOST_MORNINGS || what < 0 || what > 1) {
            return fail(BEYOND);
        }
        int safe = 0;
        int lost = 0;
        for (int i = 0; i < m; i++) {
            int bits = runMorning();
            safe += bits == 0 ? 1 : 0;
            lost += Integer.bitCount(bits);
        }
        return what == 0 ? safe : lost;
    }

    // ---- draws, voices, sheets, images, what is told

    public int seed(int v) {
        int was = now.z;
        now.z = v;
        return was;
    }

    public int voice(int rope, int act, int x) {
        if (!now.ropes.has(rope) || act < 0 || act >= ACTS) {
            return fail(BEYOND);
        }
        return voices.speak(now.ropes, rope, act, x);
    }

    public int trace(int i) {
        if (i < 0 || i >= voices.trace.size()) {
            return fail(NONE);
        }
        return voices.trace.at(i);
    }

    public int sheet(int sheet, int bits, int n) {
        Sheet made = sheetOf(sheet);
        if (made == null || (bits != 0 && bits != 8 && bits != 16 && bits != 32)) {
            return fail(BEYOND);
        }
        if (bits != 0 && n < 0) {
            return fail(STATE);
        }
        if (bits != 0 && n > MOST_NUMBERS) {
            return fail(BEYOND);
        }
        made.become(bits, bits == 0 ? 0 : n);
        return 1;
    }

    public int put(int sheet, int i, int v) {
        Sheet to = sheetOf(sheet);
        if (to == null) {
            return fail(BEYOND);
        }
        if (to.isMissing()) {
            return fail(NONE);
        }
        if (!to.stands(i, 1)) {
            return fail(BEYOND);
        }
        to.write(i, v);
        return 1;
    }

    public int move(int sheet, int i, int other, int j, int n) {
        Sheet from = sheetOf(sheet);
        Sheet to = sheetOf(other);
        if (from == null || to == null) {
            return fail(BEYOND);
        }
        if (from.isMissing() || to.isMissing()) {
            return fail(NONE);
        }
        if (from.bits != to.bits) {
            return fail(KIND);
        }
        if (!from.stands(i, n) || !to.stands(j, n)) {
            return fail(BEYOND);
        }
        to.copyFrom(j, from, i, n);
        return n;
    }

    public int image() {
        if (kept == null) {
            kept = new Dawn();
        }
        kept.copyFrom(now);
        images++;
        return images;
    }

    public int restore() {
        if (kept == null) {
            return fail(NONE);
        }
        now.copyFrom(kept);
        return now.start;
    }

    public int tell(int v) {
        if (now.waiting.isFull()) {
            return fail(FULL);
        }
        now.waiting.add(v);
        return now.waiting.size();
    }

    public int check() {
        int wrong = placeOfWrong();
        now.waiting.empty();
        return wrong + 1;
    }

    public int count(int what) {
        switch (what) {
            case 0:
                return now.start;
            case 1:
                return now.people.size();
            case 2:
                return now.pieces.size();
            case 3:
                return now.ropes.size();
            case 4:
                return now.line.size();
            case 5:
                return now.tape.size();
            case 6:
                return now.waiting.size();
            case 7:
                return voices.trace.size();
            case 8:
                return now.z;
            default:
                return fail(BEYOND);
        }
    }

    public int told(int k) {
        if (k < 1 || k > ERROR_KINDS || k >= errors.length) {
            return fail(BEYOND);
        }
        return errors[k];
    }

    // ---- what the calls share

    private int fail(int error) {
        int k = LOW - error;
        if (k >= 0 && k < errors.length) {
            errors[k]++;
        }
        return error;
    }

    private int newFour(Fours rows, int a, int b, int c, int d) {
        if (!rows.fits(a, b, c, d)) {
            return fail(BEYOND);
        }
        if (rows.isFull()) {
            return fail(FULL);
        }
        rows.add(a, b, c, d);
        return rows.size() - 1;
    }

    /** The error of asking about one on a rope at a piece, or 0. */
    private int errorOnRope(int person, int piece) {
        if (!now.people.has(person) || !now.pieces.has(piece)) {
            return BEYOND;
        }
        return now.ropeOf(person) < 0 ? NONE : 0;
    }

    private Sheet sheetOf(int sheet) {
        return sheet >= 0 && sheet < sheets.length ? sheets[sheet] : null;
    }

    private static boolean isMinute(int minute) {
        return minute >= 0 && minute <= LAST_MINUTE;
    }

    private static boolean isUse(int use) {
        return use == RISK_USE || use == HAUL_USE;
    }

    private static boolean isUnder(int kind, int asked) {
        int at = kind;
        for (int up = 0; up < KINDS && at >= 0 && at < KIND_ABOVE.length; up++) {
            if (at == asked) {
                return true;
            }
            at = KIND_ABOVE[at];
        }
        return false;
    }

    /** The first place at which what waits isn't who goes there, -1 if there is none. */
    private int placeOfWrong() {
        int place = 0;
        for (int i = 0; i < now.line.size(); i++) {
            Row row = now.rowOf(now.line.at(i));
            for (int j = 0; j < row.size(); j++) {
                if (place >= now.waiting.size() || now.waiting.at(place) != row.at(j)) {
                    return place;
                }
                place++;
            }
        }
        return place < now.waiting.size() ? place : -1;
    }

    private int runMorning() {
        crossing.cross(now);
        int lost = 0;
        int before = 0;
        for (int i = 0; i < now.line.size(); i++) {
            int rope = now.line.at(i);
            lost |= lostOn(rope, before);
            before += now.rowOf(rope).size();
        }
        return lost;
    }

    /**
     * Who of a rope is lost in a morning. Those of a bare rope never grip, and of another one all
     * are lost at once: so who is still there is held as by the whole rope.
     */
    private int lostOn(int rope, int before) {
        Row row = now.rowOf(rope);
        boolean bare = now.ropes.get(rope, ROPE_KIND) == BARE;
        int lost = 0;
        for (int piece = 0; piece < now.pieces.size(); piece++) {
            for (int place = 0; place < row.size(); place++) {
                int person = row.at(place);
                int bit = 1 << person;
                if ((lost & bit) != 0) {
                    continue;
                }
                int risk = crossing.riskOf(now, rope, person, piece, before + place);
                if (now.draw() % THOUSAND < risk && !now.isHeld(rope, place, piece)) {
                    lost |= bare ? bit : row.bits();
                }
            }
        }
        return lost;
    }

    /** Rows of four numbers, each within bounds of its column. */
    static final class Fours {
        private final int[] least;
        private final int[] most;
        private final int[] cells;
        private int rows = 0;

        Fours(int mostRows, int[] least, int[] most) {
            this.least = least;
            this.most = most;
            cells = new int[Math.max(0, mostRows) * FOUR];
        }

        int size() {
            return rows;
        }

        boolean has(int row) {
            return row >= 0 && row < rows;
        }

        boolean isFull() {
            return (rows + 1) * FOUR > cells.length;
        }

        boolean fitsColumn(int column, int v) {
            if (column < 0 || column >= least.length || column >= most.length) {
                return false;
            }
            return v >= least[column] && v <= most[column];
        }

        boolean fits(int a, int b, int c, int d) {
            return fitsColumn(0, a) && fitsColumn(1, b) && fitsColumn(2, c) && fitsColumn(3, d);
        }

        void add(int a, int b, int c, int d) {
            if (isFull()) {
                return;
            }
            rows++;
            change(rows - 1, 0, a);
            change(rows - 1, 1, b);
            change(rows - 1, 2, c);
            change(rows - 1, 3, d);
        }

        int get(int row, int column) {
            if (row < 0 || row >= rows || column < 0 || column >= FOUR) {
                return 0;
            }
            return cells[row * FOUR + column];
        }

        void change(int row, int column, int v) {
            if (has(row) && column >= 0 && column < FOUR) {
                cells[row * FOUR + column] = v;
            }
        }

        void copyFrom(Fours other) {
            rows = Math.min(other.rows, cells.length / FOUR);
            System.arraycopy(other.cells, 0, cells, 0, rows * FOUR);
        }
    }

    /** Numbers in an order, up to a most. */
    static final class Row {
        private final int[] cells;
        private int size = 0;

        Row(int most) {
            cells = new int[Math.max(0, most)];
        }

        int size() {
            return size;
        }

        boolean isFull() {
            return size >= cells.length;
        }

        int at(int i) {
            return i >= 0 && i < size ? cells[i] : -1;
        }

        void add(int v) {
            if (size < cells.length) {
                cells[size] = v;
                size++;
            }
        }

        void change(int i, int v) {
            if (i >= 0 && i < size) {
                cells[i] = v;
            }
        }

        void empty() {
            size = 0;
        }

        int placeOf(int v) {
            for (int i = 0; i < size; i++) {
                if (cells[i] == v) {
                    return i;
                }
            }
            return -1;
        }

        void removeAt(int place) {
            if (place < 0 || place >= size) {
                return;
            }
            for (int i = place; i + 1 < size; i++) {
                cells[i] = cells[i + 1];
            }
            size--;
        }

        void exchange(int i, int j) {
            if (i >= 0 && i < size && j >= 0 && j < size) {
                int v = cells[i];
                cells[i] = cells[j];
                cells[j] = v;
            }
        }

        void copyFrom(Row other) {
            size = Math.min(other.size, cells.length);
            System.arraycopy(other.cells, 0, cells, 0, size);
        }

        /** What stands here, each of 0 to 30, as bits. */
        int bits() {
            int bits = 0;
            for (int i = 0; i < size; i++) {
                bits |= 1 << cells[i];
            }
            return bits;
        }

        void becomeBits(int bits) {
            empty();
            for (int v = 0; v < MOST_PEOPLE; v++) {
                if ((bits >> v & 1) != 0) {
                    add(v);
                }
            }
        }

        void sort() {
            for (int i = 1; i < size; i++) {
                for (int j = i; j > 0 && cells[j] < cells[j - 1]; j--) {
                    exchange(j, j - 1);
                }
            }
        }

        /** Becomes the next order of the same numbers, as rows follow one another; false behind the last. */
        boolean next() {
            int rise = size - 2;
            while (rise >= 0 && cells[rise] >= cells[rise + 1]) {
                rise--;
            }
            if (rise < 0) {
                return false;
            }
            int above = size - 1;
            while (above > rise && cells[above] <= cells[rise]) {
                above--;
            }
            exchange(rise, above);
            int low = rise + 1;
            for (int high = size - 1; low < high; high--) {
                exchange(low, high);
                low++;
            }
            return true;
        }
    }

    /** All that an image keeps. */
    static final class Dawn {
        final Fours people = new Fours(MOST_PEOPLE, PERSON_LEAST, PERSON_MOST);
        final Fours pieces = new Fours(MOST_PIECES, PIECE_LEAST, PIECE_MOST);
        final Fours ropes = new Fours(MOST_ROPES, ROPE_LEAST, ROPE_MOST);
        final Row line = new Row(MOST_ROPES);
        final Row tape = new Row(MOST_BYTES);
        final Row waiting = new Row(MOST_WAITING);
        private final Row[] rows = new Row[MOST_ROPES];
        private final Row nobody = new Row(0);
        private final Row riskText = new Row(MOST_BYTES);
        private final Row haulText = new Row(MOST_BYTES);
        int start = FIRST_START;
        int z = 1;

        Dawn() {
            for (int i = 0; i < rows.length; i++) {
                rows[i] = new Row(MOST_ON_ROPE);
            }
        }

        void copyFrom(Dawn other) {
            people.copyFrom(other.people);
            pieces.copyFrom(other.pieces);
            ropes.copyFrom(other.ropes);
            line.copyFrom(other.line);
            tape.copyFrom(other.tape);
            waiting.copyFrom(other.waiting);
            riskText.copyFrom(other.riskText);
            haulText.copyFrom(other.haulText);
            for (int i = 0; i < rows.length; i++) {
                rows[i].copyFrom(other.rowOf(i));
            }
            start = other.start;
            z = other.z;
        }

        /** The people on a rope, in their order. */
        Row rowOf(int rope) {
            return rope >= 0 && rope < rows.length ? rows[rope] : nobody;
        }

        /** The codes of a use's text; none are there without one. */
        Row textOf(int use) {
            return use == RISK_USE ? riskText : haulText;
        }

        boolean isInLine(int rope) {
            return line.placeOf(rope) >= 0;
        }

        int ropeOf(int person) {
            for (int i = 0; i < rows.length; i++) {
                if (rows[i].placeOf(person) >= 0) {
                    return i;
                }
            }
            return -1;
        }

        int placeOf(int person) {
            return rowOf(ropeOf(person)).placeOf(person);
        }

        /** How many people are on the ropes ahead of one in the line. */
        int aheadOf(int rope) {
            int ahead = 0;
            for (int i = 0; i < line.placeOf(rope); i++) {
                ahead += rowOf(line.at(i)).size();
            }
            return ahead;
        }

        int slowestPace(int rope) {
            Row row = rowOf(rope);
            int slowest = 0;
            for (int i = 0; i < row.size(); i++) {
                slowest = Math.max(slowest, people.get(row.at(i), PACE));
            }
            return slowest;
        }

        int pullOf(int person, int piece) {
            return people.get(person, WEIGHT) * (10 + pieces.get(piece, STEEP)) / 10;
        }

        private int gripAt(int rope, int place, int apart) {
            Row row = rowOf(rope);
            int person = row.at(place);
            int strength = people.get(person, STRENGTH);
            boolean guide = people.get(person, GUIDE) == 1;
            int plain = apart == 0 ? 0 : strength / apart;
            int led = guide ? 2 * plain : plain;
            int knotted = plain + 10 * ropes.get(rope, KNOTS);
            switch (ropes.get(rope, ROPE_KIND)) {
                case PAIR:
                    return plain + 5 * ropes.get(rope, SPACE);
                case THREE:
                    return knotted;
                case LONG:
                    return Math.max(0, knotted - 2 * ropes.get(rope, SPACE));
                case LED:
                    return led;
                case SWEPT:
                    return guide && place == row.size() - 1 ? led + strength : led;
                case BARE:
                    return 0;
                default:
                    return plain;
            }
        }

        int holdAt(int rope, int place) {
            int size = rowOf(rope).size();
            int grips = 0;
            for (int i = 0; i < size; i++) {
                if (i != place) {
                    grips += gripAt(rope, i, Math.abs(i - place));
                }
            }
            return grips;
        }

        boolean isHeld(int rope, int place, int piece) {
            return holdAt(rope, place) >= pullOf(rowOf(rope).at(place), piece);
        }

        /** How many are lost when one on a rope goes through and isn't held. */
        int lostWithOne(int rope) {
            return ropes.get(rope, ROPE_KIND) == BARE ? 1 : rowOf(rope).size();
        }

        int draw() {
            z = z * 1103515245 + 12345;
            return z >>> 8;
        }
    }

    /** Reads a text into codes. */
    static final class Reader {
        final Row codes = new Row(MOST_BYTES);
        private Row tape = new Row(0);
        private String names = "";
        private int place = 0;
        private boolean wrong = false;

        /** The place of the fault, -1 if there is none. */
        int read(Row bytes, String allowed) {
            tape = bytes;
            names = allowed;
            place = 0;
            wrong = false;
            codes.empty();
            readLevel(0, 0);
            if (wrong || place < tape.size()) {
                return place;
            }
            return -1;
        }

        private static int levelOf(int sign) {
            switch (sign) {
                case '|':
                    return 0;
                case '&':
                    return 1;
                case '<':
                case '=':
                case '>':
                    return COMPARING;
                case '+':
                case '-':
                    return 3;
                case '*':
                case '/':
                case '%':
                    return 4;
                default:
                    return -1;
            }
        }

        private void readLevel(int level, int open) {
            if (level >= FACTORS) {
                readFactor(open);
                return;
            }
            readLevel(level + 1, open);
            int most = level == COMPARING ? 1 : MOST_BYTES;
            for (int more = 0; more < most && !wrong && levelOf(tape.at(place)) == level; more++) {
                int sign = tape.at(place);
                place++;
                readLevel(level + 1, open);
                codes.add(OPERATOR_CODE + sign);
            }
        }

        private void readFactor(int open) {
            int sign = tape.at(place);
            if (isDigit(sign)) {
                readNumber();
            } else if (sign >= 0 && names.indexOf((char) sign) >= 0) {
                codes.add(NAME_CODE + names.indexOf((char) sign));
                place++;
            } else if ((sign == '!' || sign == '(') && open < MOST_OPEN) {
                place++;
                readOpened(sign, open + 1);
            } else {
                wrong = true;
            }
        }

        private void readOpened(int sign, int open) {
            if (sign == '!') {
                readFactor(open);
                codes.add(OPERATOR_CODE + sign);
                return;
            }
            readLevel(0, open);
            if (wrong) {
                return;
            }
            if (tape.at(place) == ')') {
                place++;
            } else {
                wrong = true;
            }
        }

        private void readNumber() {
            int number = 0;
            for (int digits = 0; digits < MOST_DIGITS && isDigit(tape.at(place)); digits++) {
                number = number * 10 + tape.at(place) - '0';
                place++;
            }
            codes.add(number);
        }

        private static boolean isDigit(int sign) {
            return sign >= '0' && sign <= '9';
        }
    }

    /** Works out what the texts give. */
    static final class Reckoner {
        private final int[] names = new int[MOST_NAMES];
        private final int[] stack = new int[MOST_BYTES];

        void name(int a, int b, int c, int d, int e) {
            names[0] = a;
            names[1] = b;
            names[2] = c;
            names[3] = d;
            names[4] = e;
        }

        int give(int use, Row codes) {
            int raw;
            if (codes.size() > 0) {
                raw = valueOf(codes);
            } else if (use == RISK_USE) {
                raw = names[0] + names[4] * names[1] + 10 * names[2] - names[3];
            } else {
                raw = applied('/', names[0] * names[1], names[2] + 1) + 5;
            }
            return Math.max(0, Math.min(raw, use == RISK_USE ? MOST_RISK : MOST_HAUL));
        }

        private int valueOf(Row codes) {
            int top = 0;
            for (int i = 0; i < codes.size(); i++) {
                int code = codes.at(i);
                int sign = code - OPERATOR_CODE;
                if (sign == '!') {
                    if (top >= 1 && top <= stack.length) {
                        stack[top - 1] = stack[top - 1] == 0 ? 1 : 0;
                    }
                } else if (sign >= 0) {
                    if (top >= 2 && top <= stack.length) {
                        stack[top - 2] = applied(sign, stack[top - 2], stack[top - 1]);
                        top--;
                    }
                } else if (top < stack.length) {
                    int name = code - NAME_CODE;
                    stack[top] = name >= 0 && name < names.length ? names[name] : code;
                    top++;
                }
            }
            return stack[0];
        }

        private static int applied(int sign, int a, int b) {
            switch (sign) {
                case '|':
                    return a != 0 || b != 0 ? 1 : 0;
                case '&':
                    return a != 0 && b != 0 ? 1 : 0;
                case '<':
                    return a < b ? 1 : 0;
                case '=':
                    return a == b ? 1 : 0;
                case '>':
                    return a > b ? 1 : 0;
                case '+':
                    return a + b;
                case '-':
                    return a - b;
                case '*':
                    return a * b;
                case '/':
                    return b == 0 ? 0 : a / b;
                case '%':
                    return b == 0 ? 0 : a % b;
                default:
                    return 0;
            }
        }
    }

    /** When each rope is where, and what is likely lost by it. */
    static final class Crossing {
        final Reckoner reckoner = new Reckoner();
        private final int[] comes = new int[MOST_ROPES * MOST_PIECES];
        private final int[] offs = new int[MOST_ROPES * MOST_PIECES];
        int over = 0;

        void cross(Dawn dawn) {
            over = dawn.start;
            int ahead = -1;
            for (int i = 0; i < dawn.line.size(); i++) {
                int rope = dawn.line.at(i);
                if (dawn.rowOf(rope).size() > 0) {
                    over = crossOne(dawn, rope, ahead);
                    ahead = rope;
                }
            }
        }

        /** The minute in which a rope is off the last piece. */
        private int crossOne(Dawn dawn, int rope, int ahead) {
            int pace = dawn.slowestPace(rope);
            int minute = dawn.start;
            for (int piece = 0; piece < dawn.pieces.size(); piece++) {
                if (ahead >= 0) {
                    minute = Math.max(minute, isOff(ahead, piece));
                }
                int cell = cellOf(rope, piece);
                if (cell >= 0) {
                    comes[cell] = minute;
                    offs[cell] = minute + pace;
                }
                minute += pace;
            }
            return minute;
        }

        private static int cellOf(int rope, int piece) {
            if (rope < 0 || rope >= MOST_ROPES || piece < 0 || piece >= MOST_PIECES) {
                return -1;
            }
            return rope * MOST_PIECES + piece;
        }

        int comesTo(int rope, int piece) {
            int cell = cellOf(rope, piece);
            return cell < 0 ? 0 : comes[cell];
        }

        int isOff(int rope, int piece) {
            int cell = cellOf(rope, piece);
            return cell < 0 ? 0 : offs[cell];
        }

        /** Whether some rope comes to some piece just when an hour begins. */
        boolean turnsHour(Dawn dawn) {
            for (int i = 0; i < dawn.line.size(); i++) {
                int rope = dawn.line.at(i);
                boolean goes = dawn.rowOf(rope).size() > 0;
                for (int piece = 0; goes && piece < dawn.pieces.size(); piece++) {
                    if (comesTo(rope, piece) % 60 == 0) {
                        return true;
                    }
                }
            }
            return false;
        }

        /** As the latest cross() of this dawn tells the hours. */
        int riskOf(Dawn dawn, int rope, int person, int piece, int before) {
            int hour = comesTo(rope, piece) / 60;
            int bears = dawn.pieces.get(piece, BEARS);
            int soft = dawn.pieces.get(piece, SOFT);
            reckoner.name(dawn.people.get(person, WEIGHT), hour, before, bears, soft);
            return reckoner.give(RISK_USE, dawn.textOf(RISK_USE));
        }

        int tollOf(Dawn dawn) {
            cross(dawn);
            int sum = 0;
            int before = 0;
            for (int i = 0; i < dawn.line.size(); i++) {
                int rope = dawn.line.at(i);
                int size = dawn.rowOf(rope).size();
                for (int place = 0; place < size; place++) {
                    sum += tollAt(dawn, rope, place, before + place);
                }
                before += size;
            }
            return sum;
        }

        private int tollAt(Dawn dawn, int rope, int place, int before) {
            int person = dawn.rowOf(rope).at(place);
            int hold = dawn.holdAt(rope, place);
            int risks = 0;
            for (int piece = 0; piece < dawn.pieces.size(); piece++) {
                if (hold < dawn.pullOf(person, piece)) {
                    risks += riskOf(dawn, rope, person, piece, before);
                }
            }
            return risks * dawn.lostWithOne(rope);
        }
    }

    /** Finds what is best, on a dawn of its own: the one that it is asked about stays as it is. */
    static final class Chooser {
        final Row row = new Row(MOST_ROPES);
        int choice = -1;
        int least = 0;
        private final Dawn trial = new Dawn();
        private final Crossing crossing = new Crossing();

        private void begin(Dawn dawn) {
            trial.copyFrom(dawn);
            choice = -1;
            least = ABOVE_ALL;
        }

        private void weigh(int candidate, int toll) {
            if (toll < least) {
                least = toll;
                choice = candidate;
            }
        }

        void chooseOrder(Dawn dawn, int rope) {
            begin(dawn);
            Row tried = trial.rowOf(rope);
            tried.sort();
            boolean more = true;
            for (int i = 0; i < MOST_ORDERS_ON_ROPE && more; i++) {
                int toll = crossing.tollOf(trial);
                if (toll < least) {
                    least = toll;
                    row.copyFrom(tried);
                }
                more = tried.next();
            }
        }

        void chooseLine(Dawn dawn) {
            begin(dawn);
            trial.line.sort();
            int soonest = ABOVE_ALL;
            boolean more = true;
            for (int i = 0; i < MOST_ORDERS_OF_LINE && more; i++) {
                int toll = crossing.tollOf(trial);
                if (toll < least || (toll == least && crossing.over < soonest)) {
                    least = toll;
                    soonest = crossing.over;
                    row.copyFrom(trial.line);
                }
                more = trial.line.next();
            }
        }

        void chooseSpace(Dawn dawn, int rope) {
            begin(dawn);
            for (int space = 1; space <= MOST_SPACE; space++) {
                trial.ropes.change(rope, SPACE, space);
                weigh(space, crossing.tollOf(trial));
            }
        }

        void chooseParts(Dawn dawn, int one, int other) {
            begin(dawn);
            int all = trial.rowOf(one).bits() | trial.rowOf(other).bits();
            for (int some = 0; some <= all; some++) {
                int rest = all & ~some;
                boolean fits = Integer.bitCount(some) <= MOST_ON_ROPE && Integer.bitCount(rest) <= MOST_ON_ROPE;
                if ((some & ~all) == 0 && fits) {
                    trial.rowOf(one).becomeBits(some);
                    trial.rowOf(other).becomeBits(rest);
                    weigh(some, crossing.tollOf(trial));
                }
            }
        }

        void chooseStart(Dawn dawn, int from, int to) {
            begin(dawn);
            for (int minute = from; minute <= to && minute <= LAST_MINUTE; minute++) {
                trial.start = minute;
                crossing.cross(trial);
                // Risks ask for hours alone: with none begun the toll is that of the minute ahead.
                if (minute == from || crossing.turnsHour(trial)) {
                    weigh(minute, crossing.tollOf(trial));
                }
            }
        }

        void chooseLeft(Dawn dawn) {
            begin(dawn);
            for (int person = 0; person < dawn.people.size(); person++) {
                int rope = dawn.ropeOf(person);
                if (dawn.isInLine(rope)) {
                    Row tried = trial.rowOf(rope);
                    tried.removeAt(dawn.placeOf(person));
                    weigh(person, crossing.tollOf(trial));
                    tried.copyFrom(dawn.rowOf(rope));
                }
            }
        }

        void chooseLead(Dawn dawn, int person) {
            begin(dawn);
            Row tried = trial.rowOf(dawn.ropeOf(person));
            for (int place = dawn.placeOf(person); place > 0; place--) {
                tried.exchange(place, place - 1);
            }
            for (int place = 0; place < tried.size(); place++) {
                weigh(place, crossing.tollOf(trial));
                tried.exchange(place, place + 1);
            }
        }
    }

    /** The bodies that answer for a rope. */
    static final class Voices {
        final Row trace = new Row(MOST_TRACED);
        private int kind = 0;
        private int number = 0;
        private int knots = 0;

        int speak(Fours ropes, int rope, int act, int x) {
            kind = ropes.get(rope, ROPE_KIND);
            number = rope;
            knots = ropes.get(rope, KNOTS);
            trace.empty();
            return say(kind, act, x, 0);
        }

        /** The kind, from one on upward, that has a body for an act: the topmost has all. */
        private static int bearerOf(int from, int act) {
            int at = from;
            for (int up = 0; up < KINDS && bodyOf(at, act) == 0; up++) {
                at = at >= 0 && at < KIND_ABOVE.length ? KIND_ABOVE[at] : 0;
            }
            return at;
        }

        private static int bodyOf(int kind, int act) {
            int cell = kind * ACTS + act;
            return kind >= 0 && act >= 0 && act < ACTS && cell < BODIES.length ? BODIES[cell] : 0;
        }

        private int say(int from, int act, int x, int depth) {
            if (depth > DEEPEST_VOICE) {
                return 0;
            }
            int bearer = bearerOf(from, act);
            int body = bodyOf(bearer, act);
            int above = bearer >= 0 && bearer < KIND_ABOVE.length ? KIND_ABOVE[bearer] : 0;
            int next = depth + 1;
            trace.add(body);
            switch (body) {
                case 10:
                    return x + number;
                case 11:
                    return say(kind, HOLDS, x, next) * 2;
                case 12:
                    return x - knots;
                case 13:
                    return say(kind, PARTS, x, next) ^ say(kind, LEADS, x, next);
                case 20:
                    return say(above, PARTS, x, next) - say(kind, LEADS, 1, next);
                case 30:
                    return say(above, HOLDS, x, next) * 3;
                case 40:
                    return -say(above, LEADS, x, next);
                case 41:
                    return say(above, HOLDS, x + 1, next);
                case 50:
                    return say(above, TELLS, x, next) - say(kind, HOLDS, 2, next);
                case 60:
                    return say(above, HOLDS, x, next) ^ number;
                case 61:
                    return say(above, TELLS, x, next) * 5;
                case 71:
                    return say(above, LEADS, x, next) + number;
                default:
                    return 0;
            }
        }
    }

    /** A row of numbers of so many bits, with their signs; of none while it is missing. */
    static final class Sheet {
        private final int[] cells = new int[MOST_NUMBERS];
        int bits = 0;
        private int size = 0;

        boolean isMissing() {
            return bits == 0;
        }

        int size() {
            return size;
        }

        void become(int newBits, int newSize) {
            bits = newBits;
            size = Math.max(0, Math.min(newSize, cells.length));
            Arrays.fill(cells, 0);
        }

        /** Whether n numbers stand from number i on. */
        boolean stands(int i, int n) {
            return i >= 0 && n >= 0 && i <= size && n <= size - i;
        }

        int at(int i) {
            return i >= 0 && i < size ? cells[i] : 0;
        }

        void write(int i, int v) {
            if (i >= 0 && i < size) {
                cells[i] = bits == 8 ? (byte) v : bits == 16 ? (short) v : v;
            }
        }

        void copyFrom(int j, Sheet from, int i, int n) {
            if (stands(j, n) && from.stands(i, n)) {
                System.arraycopy(from.cells, i, cells, j, n);
            }
        }
    }
}
