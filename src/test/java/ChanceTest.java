import java.lang.reflect.Method;
import java.util.ArrayList;
import java.util.Comparator;
import java.util.List;
import java.util.Random;

/** Runs by chance (the same each time), each call held against the plain model. */
public final class ChanceTest {

    private static final int RUNS = 1500;
    private static final int CALLS = 260;
    private static final String[] TEXTS = {
        "w", "h*10", "1000-h*40", "w+s*h+10*b-l", "b*b*7%200+h", "(h>3)*500+w/3", "!(b>2)*300", "l-w|s&h=2",
        "w*w*w*w*w*w/7%997", "0-w+h*h*s", "w%0+w/0+9999", "w<l&!!b", "((((w)))+1)", "1000", "0", "w-b*30",
        "w*d/(n+1)", "p%100*d", "n", "d-99", "!n*p", "(w>99)*400+b", "500-(h-5)*(h-5)*20",
    };

    private final Dues dues = new Dues();
    private final Random random;
    private final RopesAtDawn x = new RopesAtDawn();
    private final Plain plain = new Plain();
    private final List<String> calls = new ArrayList<>();

    private ChanceTest(long seed) {
        random = new Random(seed);
    }

    public static void main(String[] args) throws Exception {
        List<Method> face = new ArrayList<>();
        for (Method m : RopesAtDawn.class.getMethods()) {
            if (m.getDeclaringClass() == RopesAtDawn.class) {
                face.add(m);
            }
        }
        face.sort(Comparator.comparing(Method::getName));
        for (int run = 0; run < RUNS; run++) {
            ChanceTest test = new ChanceTest(run);
            test.run(face);
            if (test.dues.failed()) {
                System.out.println("in run " + run + ": " + test.calls);
                System.exit(1);
            }
        }
        System.out.println("ChanceTest: " + RUNS + " runs as the model's");
    }

    private void run(List<Method> face) throws Exception {
        if (random.nextInt(8) > 0) {
            prepare(face);
        }
        for (int i = 0; i < CALLS && !dues.failed(); i++) {
            int pick = random.nextInt(face.size() + 3);
            if (pick >= face.size()) {
                feedText(face);
                continue;
            }
            Method m = face.get(pick);
            // What makes or breaks the whole is called less often than what asks about it.
            boolean rare = "clear restore sheet untie image tie".contains(m.getName());
            if (!rare || random.nextInt(4) == 0) {
                call(m, arguments(m));
            }
        }
    }

    private Method named(List<Method> face, String name) {
        for (Method m : face) {
            if (m.getName().equals(name)) {
                return m;
            }
        }
        throw new IllegalStateException(name);
    }

    private void prepare(List<Method> face) throws Exception {
        int people = random.nextInt(11);
        for (int i = 0; i < people; i++) {
            call(named(face, "person"), 30 + random.nextInt(271), random.nextInt(random.nextBoolean() ? 1000 : 120),
                1 + random.nextInt(60), random.nextInt(2));
        }
        int pieces = random.nextInt(5);
        for (int i = 0; i < pieces; i++) {
            call(named(face, "piece"), random.nextInt(11) - 5, random.nextInt(400), random.nextInt(40), 1 + random.nextInt(40));
        }
        int ropes = 1 + random.nextInt(5);
        for (int i = 0; i < ropes; i++) {
            call(named(face, "rope"), random.nextInt(7), 1 + random.nextInt(20), random.nextInt(10));
        }
        for (int i = 0; i < people; i++) {
            call(named(face, "tie"), random.nextInt(ropes), random.nextInt(people));
        }
        for (int i = 0; i < ropes; i++) {
            call(named(face, "join"), random.nextInt(ropes));
        }
    }

    private void feedText(List<Method> face) throws Exception {
        StringBuilder signs = new StringBuilder(TEXTS[random.nextInt(TEXTS.length)]);
        if (random.nextInt(3) == 0) {
            String any = "wdpnhbls0123456789+-*/%<=>|&!()x ";
            for (int i = random.nextInt(3); i >= 0; i--) {
                signs.insert(random.nextInt(signs.length() + 1), any.charAt(random.nextInt(any.length())));
            }
        }
        for (int i = 0; i < signs.length(); i++) {
            call(named(face, "feed"), signs.charAt(i), 1);
        }
        call(named(face, "text"), random.nextInt(2));
    }

    private void call(Method m, long... a) throws Exception {
        Object[] given = new Object[a.length];
        StringBuilder shown = new StringBuilder(m.getName()).append('(');
        for (int i = 0; i < a.length; i++) {
            given[i] = m.getParameterTypes()[i] == long.class ? (Object) a[i] : (Object) (int) a[i];
            shown.append(i > 0 ? ", " : "").append(a[i]);
        }
        String call = shown.append(')').toString();
        calls.add(call);
        dues.due(call, m.invoke(x, given), plain.call(m.getName(), a));
    }

    private int small(int below) {
        return random.nextInt(40) == 0 ? wild() : random.nextInt(below);
    }

    private int wild() {
        int[] odd = {-1, -2, Integer.MIN_VALUE, Integer.MAX_VALUE, 10, 40, 41, 99, 1440, -1000000001};
        return random.nextInt(3) == 0 ? random.nextInt() : odd[random.nextInt(odd.length)];
    }

    private int within(int least, int most) {
        int pick = random.nextInt(24);
        return pick == 0 ? least - 1 : pick == 1 ? most + 1 : pick == 2 ? least : pick == 3 ? most : least + random.nextInt(most - least + 1);
    }

    private long[] arguments(Method m) {
        switch (m.getName()) {
            case "person": return new long[] {within(30, 300), within(0, 999), within(1, 60), within(0, 1)};
            case "piece": return new long[] {within(-5, 5), within(0, 999), within(0, 99), within(1, 40)};
            case "rope": return new long[] {within(0, 6), within(1, 20), within(0, 9)};
            case "set": return new long[] {small(6), within(0, 1), within(1, 20)};
            case "start": return new long[] {within(0, 1439)};
            case "tie": return new long[] {small(6), small(10)};
            case "latest": return new long[] {random.nextBoolean() ? within(0, 9999) : within(0, 900)};
            case "best": {
                int from = within(0, 1439);
                return new long[] {from, random.nextInt(9) == 0 ? within(0, 1439) : from + random.nextInt(90)};
            }
            case "feed": return new long[] {random.nextLong(), random.nextInt(20) == 0 ? wild() : 1 + random.nextInt(8)};
            case "law": return new long[] {small(2), lawArgument(), lawArgument(), lawArgument(), lawArgument()};
            case "mornings": return new long[] {within(1, 40), within(0, 1)};
            case "seed": case "tell": return new long[] {random.nextBoolean() ? random.nextInt(10) : random.nextInt()};
            case "voice": return new long[] {small(6), small(4), random.nextBoolean() ? random.nextInt(20) : random.nextInt()};
            case "sheet": return new long[] {small(4), random.nextInt(9) == 0 ? small(40) : 8 << random.nextInt(3), within(0, 40)};
            case "put": {
                int i = random.nextInt(40);
                int[] four = {30 + random.nextInt(290), random.nextInt(1100), random.nextInt(62), random.nextInt(2)};
                return new long[] {small(4), small(40) == 0 ? wild() : i, random.nextInt(5) == 0 ? random.nextInt() : four[i % 4]};
            }
            case "move": return new long[] {small(4), small(20), small(4), small(20), small(20)};
            case "count": case "told": case "trace": return new long[] {small(9)};
            case "line": case "order": return m.getParameterCount() == 1 ? new long[] {small(7) - 1} : new long[] {small(6), small(7) - 1};
            case "when": return new long[] {small(6), small(5), small(2)};
            case "take": return new long[] {small(3), small(6)};
            default: {
                long[] a = new long[m.getParameterCount()];
                for (int i = 0; i < a.length; i++) {
                    a[i] = small(m.getName().equals("ofRope") && i == 1 ? 10 : i == 0 ? 10 : 7);
                }
                return a;
            }
        }
    }

    private int lawArgument() {
        return random.nextBoolean() ? random.nextInt(400) - 20 : wild();
    }
}
