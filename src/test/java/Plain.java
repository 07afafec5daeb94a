import java.util.ArrayList;
import java.util.Arrays;
import java.util.Collections;
import java.util.List;

/**
 * The document once more, written without a thought of speed or room and in another manner than the
 * program, so that runs by chance can be held against it.
 */
final class Plain {

    private static final class Fail extends RuntimeException {
        private static final long serialVersionUID = 1L;
        final int error;

        Fail(int error) {
            super(null, null, false, false);
            this.error = error;
        }
    }

    /** Kinds as classes, as the document's voices tell them. */
    static class Rope implements Cloneable {
        int n;
        int kind;
        int space;
        int knots;
        List<Integer> who = new ArrayList<>();
        List<Integer> bodies = new ArrayList<>();

        Rope copy() {
            try {
                Rope r = (Rope) clone();
                r.who = new ArrayList<>(who);
                return r;
            } catch (CloneNotSupportedException e) {
                throw new IllegalStateException(e);
            }
        }

        int grip(int strength, int j, boolean guide, boolean last) {
            return strength / j;
        }

        int holds(int x) {
            bodies.add(10);
            return x + n;
        }

        int parts(int x) {
            bodies.add(11);
            return holds(x) * 2;
        }

        int leads(int x) {
            bodies.add(12);
            return x - knots;
        }

        int tells(int x) {
            bodies.add(13);
            return parts(x) ^ leads(x);
        }
    }

    static class Pair extends Rope {
        @Override
        int grip(int strength, int j, boolean guide, boolean last) {
            return super.grip(strength, j, guide, last) + 5 * space;
        }

        @Override
        int parts(int x) {
            bodies.add(20);
            return super.parts(x) - leads(1);
        }
    }

    static class Three extends Rope {
        @Override
        int grip(int strength, int j, boolean guide, boolean last) {
            return super.grip(strength, j, guide, last) + 10 * knots;
        }

        @Override
        int holds(int x) {
            bodies.add(30);
            return super.holds(x) * 3;
        }
    }

    static class Long extends Three {
        @Override
        int grip(int strength, int j, boolean guide, boolean last) {
            int grip = super.grip(strength, j, guide, last) - 2 * space;
            return grip < 0 ? 0 : grip;
        }

        @Override
        int leads(int x) {
            bodies.add(40);
            return -super.leads(x);
        }

        @Override
        int holds(int x) {
            bodies.add(41);
            return super.holds(x + 1);
        }
    }

    static class Led extends Rope {
        @Override
        int grip(int strength, int j, boolean guide, boolean last) {
            return super.grip(strength, j, guide, last) * (guide ? 2 : 1);
        }

        @Override
        int tells(int x) {
            bodies.add(50);
            return super.tells(x) - holds(2);
        }
    }

    static class Swept extends Led {
        @Override
        int grip(int strength, int j, boolean guide, boolean last) {
            return super.grip(strength, j, guide, last) + (last && guide ? strength : 0);
        }

        @Override
        int holds(int x) {
            bodies.add(60);
            return super.holds(x) ^ n;
        }

        @Override
        int tells(int x) {
            bodies.add(61);
            return super.tells(x) * 5;
        }
    }

    static class Bare extends Rope {
        @Override
        int grip(int strength, int j, boolean guide, boolean last) {
            return 0;
        }

        @Override
        int parts(int x) {
            bodies.add(70);
            return 0;
        }

        @Override
        int leads(int x) {
            bodies.add(71);
            return super.leads(x) + n;
        }
    }

    static final class World {
        List<int[]> people = new ArrayList<>();
        List<int[]> pieces = new ArrayList<>();
        List<Rope> ropes = new ArrayList<>();
        List<Integer> line = new ArrayList<>();
        String tape = "";
        String[] texts = new String[2];
        List<Integer> waiting = new ArrayList<>();
        int start = 60;
        int z = 1;

        World copy() {
            World w = new World();
            w.people.addAll(people);
            w.pieces.addAll(pieces);
            for (Rope r : ropes) {
                w.ropes.add(r.copy());
            }
            w.line.addAll(line);
            w.tape = tape;
            w.texts = texts.clone();
            w.waiting.addAll(waiting);
            w.start = start;
            w.z = z;
            return w;
        }

        Rope ropeOf(int person) {
            for (Rope r : ropes) {
                if (r.who.contains(person)) {
                    return r;
                }
            }
            return null;
        }

        int holdIn(Rope r, List<Integer> among, int person) {
            int sum = 0;
            int at = among.indexOf(person);
            for (int i = 0; i < among.size(); i++) {
                int[] p = people.get(among.get(i));
                if (i != at) {
                    sum += r.grip(p[1], i < at ? at - i : i - at, p[3] == 1, i == among.size() - 1);
                }
            }
            return sum;
        }

        boolean heldIn(Rope r, List<Integer> among, int person, int piece) {
            int pull = people.get(person)[0] * (10 + pieces.get(piece)[0]) / 10;
            return holdIn(r, among, person) >= pull;
        }

        int costOf(int person, int piece) {
            Rope r = ropeOf(person);
            if (heldIn(r, r.who, person, piece)) {
                return 0;
            }
            return r.kind == 6 ? 1 : r.who.size();
        }

        List<Rope> going() {
            List<Rope> going = new ArrayList<>();
            for (int i : line) {
                if (!ropes.get(i).who.isEmpty()) {
                    going.add(ropes.get(i));
                }
            }
            return going;
        }

        int paceOf(Rope r) {
            int slowest = 0;
            for (int p : r.who) {
                slowest = people.get(p)[2] > slowest ? people.get(p)[2] : slowest;
            }
            return slowest;
        }

        int[][] comes() {
            List<Rope> going = going();
            int[][] comes = new int[going.size()][pieces.size()];
            for (int i = 0; i < going.size(); i++) {
                for (int p = 0; p < pieces.size(); p++) {
                    int own = p == 0 ? start : comes[i][p - 1] + paceOf(going.get(i));
                    int ahead = i == 0 ? 0 : comes[i - 1][p] + paceOf(going.get(i - 1));
                    comes[i][p] = Math.max(own, ahead);
                }
            }
            return comes;
        }

        int overAll() {
            List<Rope> going = going();
            if (going.isEmpty() || pieces.isEmpty()) {
                return start;
            }
            return comes()[going.size() - 1][pieces.size() - 1] + paceOf(going.get(going.size() - 1));
        }

        int riskOf(int person, int piece, int[][] comes) {
            int before = 0;
            List<Rope> going = going();
            for (int i = 0; i < going.size(); i++) {
                int place = going.get(i).who.indexOf(person);
                if (place >= 0) {
                    int[] p = pieces.get(piece);
                    return gives(0, people.get(person)[0], comes[i][piece] / 60, before + place, p[1], p[2]);
                }
                before += going.get(i).who.size();
            }
            throw new IllegalStateException();
        }

        int gives(int use, int... v) {
            String text = texts[use] != null ? texts[use] : use == 0 ? "w+s*h+10*b-l" : "w*d/(p+1)+5";
            int raw = valueOf(text, use == 0 ? "whbls" : "wdpn", v);
            return Math.max(0, Math.min(use == 0 ? 1000 : 999, raw));
        }

        int tollAll() {
            int[][] comes = comes();
            int sum = 0;
            for (Rope r : going()) {
                for (int person : r.who) {
                    for (int p = 0; p < pieces.size(); p++) {
                        sum += riskOf(person, p, comes) * costOf(person, p);
                    }
                }
            }
            return sum;
        }

        int runMorning() {
            int[][] comes = comes();
            int lost = 0;
            for (Rope r : going()) {
                for (int p = 0; p < pieces.size(); p++) {
                    for (int person : r.who) {
                        if ((lost >> person & 1) != 0) {
                            continue;
                        }
                        z = z * 1103515245 + 12345;
                        if ((z >>> 8) % 1000 >= riskOf(person, p, comes)) {
                            continue;
                        }
                        List<Integer> there = new ArrayList<>();
                        for (int other : r.who) {
                            if ((lost >> other & 1) == 0) {
                                there.add(other);
                            }
                        }
                        if (!heldIn(r, there, person, p)) {
                            for (int other : r.who) {
                                lost |= r.kind != 6 || other == person ? 1 << other : 0;
                            }
                        }
                    }
                }
            }
            return lost;
        }
    }

    private World w = new World();
    private World kept = null;
    private int images = 0;
    private final int[] told = new int[6];
    private List<Integer> traced = new ArrayList<>();
    private final int[][] sheets = new int[4][];
    private final int[] bits = new int[4];

    // ---- texts

    /** A text's value: cut in two at the last operator that binds least. */
    static int valueOf(String t, String names, int[] v) {
        String[] levels = {"|", "&", "<=>", "+-", "*/%"};
        for (String level : levels) {
            int depth = 0;
            for (int i = t.length() - 1; i >= 0; i--) {
                char c = t.charAt(i);
                depth += c == ')' ? 1 : c == '(' ? -1 : 0;
                if (depth == 0 && level.indexOf(c) >= 0) {
                    int a = valueOf(t.substring(0, i), names, v);
                    int b = valueOf(t.substring(i + 1), names, v);
                    return applied(c, a, b);
                }
            }
        }
        if (t.charAt(0) == '!') {
            return valueOf(t.substring(1), names, v) == 0 ? 1 : 0;
        }
        if (t.charAt(0) == '(') {
            return valueOf(t.substring(1, t.length() - 1), names, v);
        }
        if (Character.isDigit(t.charAt(0))) {
            return Integer.parseInt(t);
        }
        return v[names.indexOf(t.charAt(0))];
    }

    private static int applied(char c, int a, int b) {
        switch (c) {
            case '|': return a != 0 || b != 0 ? 1 : 0;
            case '&': return a != 0 && b != 0 ? 1 : 0;
            case '<': return a < b ? 1 : 0;
            case '=': return a == b ? 1 : 0;
            case '>': return a > b ? 1 : 0;
            case '+': return a + b;
            case '-': return a - b;
            case '*': return a * b;
            case '/': return b == 0 ? 0 : a / b;
            default: return b == 0 ? 0 : a % b;
        }
    }

    /** The fault of a text, -1 if it has none: a walk over the signs with what is open on a string. */
    static int faultOf(String t, String names) {
        StringBuilder open = new StringBuilder();
        List<Boolean> compared = new ArrayList<>();
        compared.add(false);
        boolean wants = true;
        int digits = 0;
        for (int i = 0; i < t.length(); i++) {
            char c = t.charAt(i);
            boolean digit = c >= '0' && c <= '9';
            if (digits > 0 && digits < 4 && digit) {
                digits++;
                continue;
            }
            int top = compared.size() - 1;
            if (wants) {
                if (digit || names.indexOf(c) >= 0) {
                    digits = digit ? 1 : 0;
                    wants = false;
                    dropNots(open);
                } else if ((c == '!' || c == '(') && open.length() < 5) {
                    open.append(c);
                    if (c == '(') {
                        compared.add(false);
                    }
                } else {
                    return i;
                }
                continue;
            }
            digits = 0;
            if (c == ')' && open.length() > 0) {
                open.setLength(open.length() - 1);
                dropNots(open);
                compared.remove(top);
            } else if (c == '|' || c == '&') {
                compared.set(top, false);
                wants = true;
            } else if ("<=>".indexOf(c) >= 0 && !compared.get(top)) {
                compared.set(top, true);
                wants = true;
            } else if ("+-*/%".indexOf(c) >= 0) {
                wants = true;
            } else {
                return i;
            }
        }
        return wants || open.length() > 0 ? t.length() : -1;
    }

    private static void dropNots(StringBuilder open) {
        while (open.length() > 0 && open.charAt(open.length() - 1) == '!') {
            open.setLength(open.length() - 1);
        }
    }

    // ---- calls by name

    int call(String name, long... a) {
        int[] v = new int[a.length];
        for (int i = 0; i < a.length; i++) {
            v[i] = (int) a[i];
        }
        try {
            return name.equals("feed") ? feed(a[0], v[1]) : answer(name, v);
        } catch (Fail f) {
            told[-1000000000 - f.error]++;
            return f.error;
        }
    }

    private static void beyond(boolean bad) {
        failIf(bad, 1);
    }

    private static void failIf(boolean bad, int k) {
        if (bad) {
            throw new Fail(-1000000000 - k);
        }
    }

    private static boolean out(int v, int from, int to) {
        return v < from || v > to;
    }

    private void askPerson(int p) {
        beyond(out(p, 0, w.people.size() - 1));
    }

    private void askPiece(int p) {
        beyond(out(p, 0, w.pieces.size() - 1));
    }

    private Rope askRope(int r) {
        beyond(out(r, 0, w.ropes.size() - 1));
        return w.ropes.get(r);
    }

    private static boolean isPerson(int... v) {
        return !(out(v[0], 30, 300) || out(v[1], 0, 999) || out(v[2], 1, 60) || out(v[3], 0, 1));
    }

    private int feed(long word, int n) {
        beyond(out(n, 1, 8));
        failIf(w.tape.length() + n > 50, 4);
        for (int i = 0; i < n; i++) {
            w.tape += (char) (word & 255);
            word >>= 8;
        }
        return w.tape.length();
    }

    private int answer(String name, int[] v) {
        switch (name) {
            case "person":
                beyond(!isPerson(v));
                failIf(w.people.size() == 10, 4);
                w.people.add(v);
                return w.people.size() - 1;
            case "ofPerson": {
                askPerson(v[0]);
                beyond(out(v[1], 0, 5));
                if (v[1] < 4) {
                    return w.people.get(v[0])[v[1]];
                }
                Rope r = w.ropeOf(v[0]);
                return r == null ? -1 : v[1] == 4 ? r.n : r.who.indexOf(v[0]);
            }
            case "people":
                return people(v[0]);
            case "piece":
                beyond(out(v[0], -5, 5) || out(v[1], 0, 999) || out(v[2], 0, 99) || out(v[3], 1, 40));
                failIf(w.pieces.size() == 8, 4);
                w.pieces.add(v);
                return w.pieces.size() - 1;
            case "ofPiece":
                askPiece(v[0]);
                beyond(out(v[1], 0, 3));
                return w.pieces.get(v[0])[v[1]];
            case "start": {
                beyond(out(v[0], 0, 1439));
                int was = w.start;
                w.start = v[0];
                return was;
            }
            case "rope":
                return rope(v[0], v[1], v[2]);
            case "tie": {
                Rope r = askRope(v[0]);
                askPerson(v[1]);
                failIf(w.ropeOf(v[1]) != null, 3);
                failIf(r.who.size() == 5, 4);
                r.who.add(v[1]);
                return r.who.size() - 1;
            }
            case "untie": {
                askPerson(v[0]);
                Rope r = w.ropeOf(v[0]);
                failIf(r == null, 2);
                r.who.remove(Integer.valueOf(v[0]));
                return r.n;
            }
            case "ofRope": {
                Rope r = askRope(v[0]);
                beyond(out(v[1], 0, 9));
                List<Integer> told = new ArrayList<>(List.of(r.kind, r.space, r.knots, r.who.size(), w.line.indexOf(r.n)));
                told.addAll(r.who);
                return v[1] < told.size() ? told.get(v[1]) : -1;
            }
            case "as": {
                Rope r = askRope(v[0]);
                beyond(out(v[1], 0, 6));
                Class<?>[] kinds = {Rope.class, Pair.class, Three.class, Long.class, Led.class, Swept.class, Bare.class};
                failIf(!kinds[v[1]].isInstance(r), 5);
                return r.knots;
            }
            case "set": {
                Rope r = askRope(v[0]);
                beyond(out(v[1], 0, 1) || (v[1] == 0 ? out(v[2], 1, 20) : out(v[2], 0, 9)));
                int was = v[1] == 0 ? r.space : r.knots;
                r.space = v[1] == 0 ? v[2] : r.space;
                r.knots = v[1] == 1 ? v[2] : r.knots;
                return was;
            }
            case "swap": {
                askPerson(v[0]);
                askPerson(v[1]);
                beyond(v[0] == v[1]);
                failIf(w.ropeOf(v[0]) == null || w.ropeOf(v[1]) == null, 2);
                for (Rope r : w.ropes) {
                    r.who.replaceAll(p -> p == v[0] ? v[1] : p == v[1] ? v[0] : p);
                }
                return 1;
            }
            default:
                return answerOnRopes(name, v);
        }
    }

    private int people(int sheet) {
        beyond(out(sheet, 0, 3));
        failIf(sheets[sheet] == null, 2);
        int came = 0;
        for (int i = 0; i + 3 < sheets[sheet].length && w.people.size() < 10; i += 4) {
            int[] four = Arrays.copyOfRange(sheets[sheet], i, i + 4);
            if (!isPerson(four)) {
                break;
            }
            w.people.add(four);
            came++;
        }
        return came;
    }

    private int rope(int kind, int space, int knots) {
        beyond(out(kind, 0, 6) || out(space, 1, 20) || out(knots, 0, 9));
        failIf(w.ropes.size() == 6, 4);
        Rope[] kinds = {new Rope(), new Pair(), new Three(), new Long(), new Led(), new Swept(), new Bare()};
        Rope r = kinds[kind];
        r.n = w.ropes.size();
        r.kind = kind;
        r.space = space;
        r.knots = knots;
        w.ropes.add(r);
        return r.n;
    }

    private int answerOnRopes(String name, int[] v) {
        switch (name) {
            case "hold": {
                askPerson(v[0]);
                Rope r = w.ropeOf(v[0]);
                failIf(r == null, 2);
                return w.holdIn(r, r.who, v[0]);
            }
            case "held":
            case "cost":
            case "haul": {
                askPerson(v[0]);
                askPiece(v[1]);
                Rope r = w.ropeOf(v[0]);
                failIf(r == null, 2);
                if (name.equals("held")) {
                    return w.heldIn(r, r.who, v[0], v[1]) ? 1 : 0;
                }
                if (name.equals("cost")) {
                    return w.costOf(v[0], v[1]);
                }
                int p = 0;
                for (int other : r.who) {
                    p += other == v[0] ? 0 : w.people.get(other)[1];
                }
                return w.gives(1, w.people.get(v[0])[0], w.pieces.get(v[1])[3], p, r.who.size() - 1);
            }
            case "text": {
                beyond(out(v[0], 0, 1));
                String tape = w.tape;
                w.tape = "";
                int fault = faultOf(tape, v[0] == 0 ? "whbls" : "wdpn");
                if (fault >= 0) {
                    return -10 - fault;
                }
                w.texts[v[0]] = tape;
                return 1;
            }
            case "law":
                beyond(out(v[0], 0, 1));
                return w.gives(v[0], v[1], v[2], v[3], v[4], 0);
            case "join": {
                Rope r = askRope(v[0]);
                failIf(w.line.contains(r.n), 3);
                w.line.add(r.n);
                return w.line.size() - 1;
            }
            case "clear": {
                int were = w.line.size();
                w.line.clear();
                return were;
            }
            case "when": {
                Rope r = askRope(v[0]);
                askPiece(v[1]);
                beyond(out(v[2], 0, 1));
                int at = w.going().indexOf(r);
                failIf(at < 0, 2);
                return w.comes()[at][v[1]] + (v[2] == 1 ? w.paceOf(r) : 0);
            }
            case "risk": {
                askPerson(v[0]);
                askPiece(v[1]);
                Rope r = w.ropeOf(v[0]);
                failIf(r == null || !w.line.contains(r.n), 2);
                return w.riskOf(v[0], v[1], w.comes());
            }
            case "over":
                return w.overAll();
            case "toll":
                return w.tollAll();
            default:
                return answerOfBest(name, v);
        }
    }

    // ---- what is best

    private static void orders(List<Integer> ahead, List<Integer> rest, List<List<Integer>> all) {
        if (rest.isEmpty()) {
            all.add(new ArrayList<>(ahead));
        }
        for (int i = 0; i < rest.size(); i++) {
            int v = rest.remove(i);
            ahead.add(v);
            orders(ahead, rest, all);
            ahead.remove(ahead.size() - 1);
            rest.add(i, v);
        }
    }

    private static List<List<Integer>> ordersOf(List<Integer> of) {
        List<Integer> sorted = new ArrayList<>(of);
        Collections.sort(sorted);
        List<List<Integer>> all = new ArrayList<>();
        orders(new ArrayList<>(), sorted, all);
        return all;
    }

    private List<Integer> bestOrder(int rope) {
        List<Integer> best = null;
        int least = 0;
        for (List<Integer> order : ordersOf(w.ropes.get(rope).who)) {
            World t = w.copy();
            t.ropes.get(rope).who = order;
            int toll = t.tollAll();
            if (best == null || toll < least) {
                best = order;
                least = toll;
            }
        }
        return best;
    }

    private int bestSpace(int rope) {
        int best = 0;
        int least = 0;
        for (int space = 20; space >= 1; space--) {
            World t = w.copy();
            t.ropes.get(rope).space = space;
            int toll = t.tollAll();
            if (best == 0 || toll <= least) {
                best = space;
                least = toll;
            }
        }
        return best;
    }

    private List<Integer> bestLine() {
        List<Integer> best = null;
        int least = 0;
        int soonest = 0;
        for (List<Integer> order : ordersOf(w.line)) {
            World t = w.copy();
            t.line = order;
            int toll = t.tollAll();
            int over = t.overAll();
            if (best == null || toll < least || toll == least && over < soonest) {
                best = order;
                least = toll;
                soonest = over;
            }
        }
        return best;
    }

    private int parts(int one, int other) {
        List<Integer> all = new ArrayList<>(w.ropes.get(one).who);
        all.addAll(w.ropes.get(other).who);
        Collections.sort(all);
        int best = -1;
        int least = 0;
        for (int pick = 0; pick < 1 << all.size(); pick++) {
            World t = w.copy();
            t.ropes.get(one).who.clear();
            t.ropes.get(other).who.clear();
            int some = 0;
            for (int i = 0; i < all.size(); i++) {
                boolean first = (pick >> i & 1) == 1;
                t.ropes.get(first ? one : other).who.add(all.get(i));
                some |= first ? 1 << all.get(i) : 0;
            }
            if (t.ropes.get(one).who.size() > 5 || t.ropes.get(other).who.size() > 5) {
                continue;
            }
            int toll = t.tollAll();
            if (best < 0 || toll < least) {
                best = some;
                least = toll;
            }
        }
        return best;
    }

    private int tollFrom(int start) {
        World t = w.copy();
        t.start = start;
        return t.tollAll();
    }

    private int left() {
        int best = -1;
        int least = 0;
        for (int p = 0; p < w.people.size(); p++) {
            Rope r = w.ropeOf(p);
            if (r == null || !w.line.contains(r.n)) {
                continue;
            }
            World t = w.copy();
            t.ropes.get(r.n).who.remove(Integer.valueOf(p));
            int toll = t.tollAll();
            if (best < 0 || toll < least) {
                best = p;
                least = toll;
            }
        }
        failIf(best < 0, 2);
        return best;
    }

    private int lead(int person) {
        Rope r = w.ropeOf(person);
        failIf(r == null || !w.line.contains(r.n), 2);
        int best = -1;
        int least = 0;
        for (int place = 0; place < r.who.size(); place++) {
            World t = w.copy();
            List<Integer> who = t.ropes.get(r.n).who;
            who.remove(Integer.valueOf(person));
            who.add(place, person);
            int toll = t.tollAll();
            if (best < 0 || toll < least) {
                best = place;
                least = toll;
            }
        }
        return best;
    }

    private int answerOfBest(String name, int[] v) {
        switch (name) {
            case "order": {
                Rope r = askRope(v[0]);
                beyond(v[1] < -1);
                failIf(!w.line.contains(r.n), 3);
                failIf(v[1] >= r.who.size(), 2);
                List<Integer> best = bestOrder(r.n);
                World t = w.copy();
                t.ropes.get(r.n).who = best;
                return v[1] < 0 ? t.tollAll() : best.get(v[1]);
            }
            case "space": {
                Rope r = askRope(v[0]);
                failIf(!w.line.contains(r.n), 3);
                return bestSpace(r.n);
            }
            case "line": {
                beyond(v[0] < -1);
                failIf(v[0] >= w.line.size(), 2);
                World t = w.copy();
                t.line = bestLine();
                return v[0] < 0 ? t.tollAll() : t.line.get(v[0]);
            }
            case "parts": {
                Rope one = askRope(v[0]);
                Rope other = askRope(v[1]);
                beyond(one == other);
                failIf(!w.line.contains(one.n) || !w.line.contains(other.n), 3);
                return parts(v[0], v[1]);
            }
            case "latest": {
                beyond(out(v[0], 0, 9999));
                for (int start = 1439; start >= 0; start--) {
                    World t = w.copy();
                    t.start = start;
                    if (t.overAll() <= v[0]) {
                        return start;
                    }
                }
                throw new Fail(-1000000002);
            }
            case "best": {
                beyond(out(v[0], 0, 1439) || out(v[1], 0, 1439) || v[0] > v[1]);
                int best = v[0];
                int least = tollFrom(best);
                for (int start = v[0] + 1; start <= v[1]; start++) {
                    int toll = tollFrom(start);
                    if (toll < least) {
                        best = start;
                        least = toll;
                    }
                }
                return best;
            }
            case "left":
                return left();
            case "lead":
                askPerson(v[0]);
                return lead(v[0]);
            case "take": {
                beyond(out(v[0], 0, 2));
                Rope r = askRope(v[1]);
                failIf(v[0] < 2 && !w.line.contains(r.n), 3);
                if (v[0] == 0) {
                    r.who = bestOrder(r.n);
                } else if (v[0] == 1) {
                    r.space = bestSpace(r.n);
                } else {
                    w.line = bestLine();
                }
                return w.tollAll();
            }
            default:
                return answerOfRest(name, v);
        }
    }

    private int answerOfRest(String name, int[] v) {
        switch (name) {
            case "morning":
                return w.runMorning();
            case "mornings": {
                beyond(out(v[0], 1, 40) || out(v[1], 0, 1));
                int[] sums = new int[2];
                for (int i = 0; i < v[0]; i++) {
                    int lost = w.runMorning();
                    sums[0] += lost == 0 ? 1 : 0;
                    sums[1] += Integer.bitCount(lost);
                }
                return sums[v[1]];
            }
            case "seed": {
                int was = w.z;
                w.z = v[0];
                return was;
            }
            case "voice": {
                Rope r = askRope(v[0]);
                beyond(out(v[1], 0, 3));
                r.bodies = new ArrayList<>();
                int x = v[2];
                int said = v[1] == 0 ? r.holds(x) : v[1] == 1 ? r.parts(x) : v[1] == 2 ? r.leads(x) : r.tells(x);
                traced = r.bodies;
                return said;
            }
            case "trace":
                failIf(out(v[0], 0, Math.min(40, traced.size()) - 1), 2);
                return traced.get(v[0]);
            case "image":
                kept = w.copy();
                return ++images;
            case "restore":
                failIf(kept == null, 2);
                w = kept.copy();
                return w.start;
            case "tell":
                failIf(w.waiting.size() == 20, 4);
                w.waiting.add(v[0]);
                return w.waiting.size();
            case "check": {
                List<Integer> go = new ArrayList<>();
                for (Rope r : w.going()) {
                    go.addAll(r.who);
                }
                int i = 0;
                while (i < go.size() && i < w.waiting.size() && go.get(i).equals(w.waiting.get(i))) {
                    i++;
                }
                boolean same = i == go.size() && i == w.waiting.size();
                w.waiting.clear();
                return same ? 0 : 1 + i;
            }
            case "count": {
                beyond(out(v[0], 0, 8));
                int[] all = {w.start, w.people.size(), w.pieces.size(), w.ropes.size(), w.line.size(),
                    w.tape.length(), w.waiting.size(), traced.size(), w.z};
                return all[v[0]];
            }
            case "told":
                beyond(out(v[0], 1, 5));
                return told[v[0]];
            default:
                return answerOfSheets(name, v);
        }
    }

    private int answerOfSheets(String name, int[] v) {
        beyond(out(v[0], 0, 3));
        switch (name) {
            case "sheet":
                beyond(v[1] != 0 && v[1] != 8 && v[1] != 16 && v[1] != 32);
                if (v[1] == 0) {
                    sheets[v[0]] = null;
                    return 1;
                }
                failIf(v[2] < 0, 3);
                beyond(v[2] > 40);
                sheets[v[0]] = new int[v[2]];
                bits[v[0]] = v[1];
                return 1;
            case "put": {
                failIf(sheets[v[0]] == null, 2);
                beyond(out(v[1], 0, sheets[v[0]].length - 1));
                int away = 32 - bits[v[0]];
                sheets[v[0]][v[1]] = v[2] << away >> away;
                return 1;
            }
            case "move": {
                beyond(out(v[2], 0, 3));
                int[] from = sheets[v[0]];
                int[] to = sheets[v[2]];
                failIf(from == null || to == null, 2);
                failIf(bits[v[0]] != bits[v[2]], 5);
                beyond(v[1] < 0 || v[3] < 0 || v[4] < 0);
                beyond((long) v[1] + v[4] > from.length || (long) v[3] + v[4] > to.length);
                int[] were = from.clone();
                for (int k = 0; k < v[4]; k++) {
                    to[v[3] + k] = were[v[1] + k];
                }
                return v[4];
            }
            default:
                throw new IllegalStateException(name);
        }
    }
}
