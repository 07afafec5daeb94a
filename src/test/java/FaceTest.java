import java.lang.reflect.Constructor;
import java.lang.reflect.Field;
import java.lang.reflect.Method;
import java.lang.reflect.Modifier;
import java.nio.file.Files;
import java.nio.file.Path;
import java.util.ArrayList;
import java.util.Collections;
import java.util.List;

/** The class shows the document's face and nothing else (LANGUAGE.md, rule 1). */
public final class FaceTest {

    private static final String[] FACE = {
        "as(int,int)", "best(int,int)", "check()", "clear()", "cost(int,int)", "count(int)",
        "feed(long,int)", "haul(int,int)", "held(int,int)", "hold(int)", "image()", "join(int)",
        "latest(int)", "law(int,int,int,int,int)", "lead(int)", "left()", "line(int)", "morning()",
        "mornings(int,int)", "move(int,int,int,int,int)", "ofPerson(int,int)", "ofPiece(int,int)",
        "ofRope(int,int)", "order(int,int)", "over()", "parts(int,int)", "people(int)",
        "person(int,int,int,int)", "piece(int,int,int,int)", "put(int,int,int)", "restore()",
        "risk(int,int)", "rope(int,int,int)", "seed(int)", "set(int,int,int)", "sheet(int,int,int)",
        "space(int)", "start(int)", "swap(int,int)", "take(int,int)", "tell(int)", "text(int)",
        "tie(int,int)", "told(int)", "toll()", "trace(int)", "untie(int)", "voice(int,int,int)",
        "when(int,int,int)",
    };

    private static final String[] RULED_OUT = {
        "throw ", "try ", "catch ", "synchronized", "assert ", "->", "::", "Exact(", "package ",
        "protected ", "System.out", "hashCode", "toString",
    };

    public static void main(String[] args) throws Exception {
        Dues dues = new Dues();
        dues.due("public and final", modifiers(RopesAtDawn.class), Modifier.PUBLIC | Modifier.FINAL);
        Constructor<?>[] made = RopesAtDawn.class.getDeclaredConstructors();
        dues.due("constructors", made.length, 1);
        dues.due("public constructor", made[0].getModifiers() + made[0].getParameterCount(), Modifier.PUBLIC);
        List<String> open = new ArrayList<>();
        List<String> names = new ArrayList<>();
        for (Method m : RopesAtDawn.class.getDeclaredMethods()) {
            if (Modifier.isPrivate(m.getModifiers())) {
                continue;
            }
            open.add(shown(m));
            names.add(m.getName());
            dues.due(m + " answers an int and is public", m.getReturnType() == int.class && m.getModifiers() == Modifier.PUBLIC, true);
        }
        Collections.sort(open);
        dues.due("the face", open.toString(), List.of(FACE).toString());
        for (Field f : RopesAtDawn.class.getDeclaredFields()) {
            dues.due(f + " is private", Modifier.isPrivate(f.getModifiers()), true);
        }
        for (Class<?> inside : RopesAtDawn.class.getDeclaredClasses()) {
            dues.due(inside + " is static", Modifier.isStatic(inside.getModifiers()), true);
            dues.due(inside + " is not public", Modifier.isPublic(inside.getModifiers()), false);
            checkNames(dues, inside, names);
        }
        checkNames(dues, RopesAtDawn.class, names);
        checkFields(dues, RopesAtDawn.class);
        dues.due("at most twelve classes", RopesAtDawn.class.getDeclaredClasses().length <= 12, true);
        for (Class<?> inside : RopesAtDawn.class.getDeclaredClasses()) {
            checkFields(dues, inside);
        }
        checkSource(dues);
        checkLengths(dues);
        dues.end("FaceTest");
    }

    private static int modifiers(Class<?> of) {
        return of.getModifiers();
    }

    private static String shown(Method m) {
        StringBuilder b = new StringBuilder(m.getName()).append('(');
        for (int i = 0; i < m.getParameterCount(); i++) {
            b.append(i > 0 ? "," : "").append(m.getParameterTypes()[i].getName());
        }
        return b.append(')').toString();
    }

    private static void checkNames(Dues dues, Class<?> of, List<String> names) {
        for (Method m : of.getDeclaredMethods()) {
            dues.due(m + " has at most seven parameters", m.getParameterCount() <= 7, true);
            if (Modifier.isPrivate(m.getModifiers()) || of != RopesAtDawn.class) {
                dues.due(m + " bears no public name", names.contains(m.getName()), false);
            }
        }
    }

    /** Rules 5 and 11: static fields are constants of a few types, and a class has some twenty others at most. */
    private static void checkFields(Dues dues, Class<?> of) {
        List<Class<?>> constants = List.of(int.class, long.class, boolean.class, char.class, String.class,
            int[].class, long[].class, char[].class, byte[].class);
        int others = 0;
        for (Field f : of.getDeclaredFields()) {
            if (Modifier.isStatic(f.getModifiers())) {
                dues.due(f + " is final", Modifier.isFinal(f.getModifiers()), true);
                dues.due(f + " is of a constant's type", constants.contains(f.getType()), true);
            } else {
                others++;
            }
        }
        dues.due(of + " has at most twenty fields", others <= 20, true);
    }

    /** Rule 11: no method is longer than sixty lines. */
    private static void checkLengths(Dues dues) throws Exception {
        List<String> lines = Files.readAllLines(Path.of("src/main/java/RopesAtDawn.java"));
        int begun = -1;
        String end = "";
        for (int i = 0; i < lines.size(); i++) {
            String line = lines.get(i);
            String body = line.strip();
            String indent = line.substring(0, line.length() - line.stripLeading().length());
            if (begun < 0 && indent.length() >= 4 && body.endsWith(") {")) {
                begun = i;
                end = indent + "}";
            } else if (begun >= 0 && line.equals(end)) {
                dues.due("the method of line " + (begun + 1) + " is short", i - begun <= 60, true);
                begun = -1;
            }
        }
    }

    private static void checkSource(Dues dues) throws Exception {
        String source = Files.readString(Path.of("src/main/java/RopesAtDawn.java"));
        for (String word : RULED_OUT) {
            dues.due("the source has '" + word + "'", source.contains(word), false);
        }
        for (int i = 0; i < source.length(); i++) {
            if (source.charAt(i) > 127) {
                dues.due("sign at " + i + " is within 127", source.charAt(i), 0);
            }
        }
    }
}
