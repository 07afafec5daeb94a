import java.lang.reflect.InvocationTargetException;
import java.lang.reflect.Method;
import java.util.Map;
import java.util.TreeMap;

/** An object whose calls are written as texts, such as "tie(0, 3)"; "tape w+1" feeds these signs. */
final class Script {

    /** What answers calls by their names: the class, or the plain model. */
    interface Answering {
        int call(String name, long... numbers);
    }

    static final int MOST_CALLS = 512;
    private static final String TAPE = "tape ";
    private static final Map<String, Method> FACE = face();

    private final Answering x;
    private int calls = 0;

    Script(String... made) {
        this(ofClass(), made);
    }

    Script(Answering x, String... made) {
        this.x = x;
        for (String call : made) {
            call(call);
        }
    }

    private static Map<String, Method> face() {
        Map<String, Method> face = new TreeMap<>();
        for (Method m : RopesAtDawn.class.getMethods()) {
            if (m.getDeclaringClass() == RopesAtDawn.class) {
                face.put(m.getName(), m);
            }
        }
        return face;
    }

    /** The names of all acts, each with how many numbers it takes. */
    static Map<String, Integer> acts() {
        Map<String, Integer> acts = new TreeMap<>();
        for (Method m : FACE.values()) {
            acts.put(m.getName(), m.getParameterCount());
        }
        return acts;
    }

    private static Answering ofClass() {
        RopesAtDawn x = new RopesAtDawn();
        return (name, numbers) -> invoke(x, FACE.get(name), numbers);
    }

    private static int invoke(RopesAtDawn x, Method m, long... numbers) {
        Object[] given = new Object[numbers.length];
        for (int i = 0; i < given.length; i++) {
            given[i] = m.getParameterTypes()[i] == long.class ? (Object) numbers[i] : (Object) Math.toIntExact(numbers[i]);
        }
        try {
            return (Integer) m.invoke(x, given);
        } catch (IllegalAccessException | InvocationTargetException e) {
            throw new IllegalStateException(m.getName(), e);
        }
    }

    int calls() {
        return calls;
    }

    /** What a call answers; MIN and MAX stand for the least and the greatest int. */
    int call(String text) {
        if (text.startsWith(TAPE)) {
            return feed(text.substring(TAPE.length()));
        }
        int open = text.indexOf('(');
        String inside = text.substring(open + 1, text.length() - 1);
        String[] words = inside.isEmpty() ? new String[0] : inside.split(", ");
        long[] numbers = new long[words.length];
        for (int i = 0; i < numbers.length; i++) {
            numbers[i] = words[i].equals("MIN") ? Integer.MIN_VALUE : words[i].equals("MAX") ? Integer.MAX_VALUE : Long.parseLong(words[i]);
        }
        return ask(text.substring(0, open), numbers);
    }

    private int ask(String name, long... numbers) {
        calls++;
        if (calls > MOST_CALLS) {
            throw new IllegalStateException("the document tells of 512 calls alone");
        }
        return x.call(name, numbers);
    }

    private int feed(String signs) {
        int bytes = 0;
        for (int i = 0; i < signs.length(); i += 8) {
            int n = Math.min(8, signs.length() - i);
            long word = 0;
            for (int k = n - 1; k >= 0; k--) {
                word = word << 8 | signs.charAt(i + k);
            }
            bytes = ask("feed", word, n);
        }
        return bytes;
    }
}
