import java.lang.reflect.Constructor;
import java.lang.reflect.Field;
import java.lang.reflect.Method;
import java.lang.reflect.Modifier;
import java.util.ArrayList;
import java.util.Collections;
import java.util.List;

/** The class shows the document's face and nothing else (LANGUAGE.md, rule 1). */
public final class FaceTest {

    private static final String[] FACE = {
        "as(int,int)", "best(int,int)", "check()", "clear()", "cost(int,int)", "count(int)",
        "feed(long,int)", "haul(int,int)", "held(int,int)", "hold(int)", "image()", "join(int)",
        "latest(int)", "law(int,int,int,int,int)", "lead(int)", "left()", "line(int)", "morning()",
        "mornings(int,int)", "move(int,int,int,int,int)", "ofPerson(int,int)", "ofPiece(int,int)",
        "ofRope(int,int)", "order(int,int)", "over()", "parts(int,int)", "people(int)",
        "person(int,int,int,int)", "piece(int,int,int,int)", "put(int,int,int)", "restore()",
        "risk(int,int)", "rope(int,int,int)", "seed(int)", "set(int,int,int)", "sheet(int,int,int)",
        "space(int)", "start(int)", "swap(int,int)", "take(int,int)", "tell(int)", "text(int)",
        "tie(int,int)", "told(int)", "toll()", "trace(int)", "untie(int)", "voice(int,int,int)",
        "when(int,int,int)",
    };

    public static void main(String[] args) {
        Dues dues = new Dues();
        dues.due("public and final", RopesAtDawn.class.getModifiers(), Modifier.PUBLIC | Modifier.FINAL);
        Constructor<?>[] made = RopesAtDawn.class.getDeclaredConstructors();
        dues.due("constructors", made.length, 1);
        dues.due("public constructor", made[0].getModifiers() + made[0].getParameterCount(), Modifier.PUBLIC);
        List<String> open = new ArrayList<>();
        List<String> names = new ArrayList<>();
        for (Method m : RopesAtDawn.class.getDeclaredMethods()) {
            if (Modifier.isPrivate(m.getModifiers())) {
                continue;
            }
            open.add(shown(m));
            names.add(m.getName());
            dues.due(m + " answers an int and is public", m.getReturnType() == int.class && m.getModifiers() == Modifier.PUBLIC, true);
        }
        Collections.sort(open);
        dues.due("the face", open.toString(), List.of(FACE).toString());
        for (Field f : RopesAtDawn.class.getDeclaredFields()) {
            dues.due(f + " is private", Modifier.isPrivate(f.getModifiers()), true);
        }
        for (Class<?> inside : RopesAtDawn.class.getDeclaredClasses()) {
            dues.due(inside + " is static", Modifier.isStatic(inside.getModifiers()), true);
            dues.due(inside + " is not public", Modifier.isPublic(inside.getModifiers()), false);
            checkNames(dues, inside, names);
        }
        checkNames(dues, RopesAtDawn.class, names);
        dues.end("FaceTest");
    }

    private static String shown(Method m) {
        StringBuilder b = new StringBuilder(m.getName()).append('(');
        for (int i = 0; i < m.getParameterCount(); i++) {
            b.append(i > 0 ? "," : "").append(m.getParameterTypes()[i].getName());
        }
        return b.append(')').toString();
    }

    private static void checkNames(Dues dues, Class<?> of, List<String> names) {
        for (Method m : of.getDeclaredMethods()) {
            if (Modifier.isPrivate(m.getModifiers()) || of != RopesAtDawn.class) {
                dues.due(m + " bears no public name", names.contains(m.getName()), false);
            }
        }
    }
}
