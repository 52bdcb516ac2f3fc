import java.lang.reflect.Constructor;
import java.lang.reflect.Field;
import java.lang.reflect.Method;
import java.lang.reflect.Modifier;
import java.util.Arrays;
import java.util.Set;
import java.util.TreeSet;
import java.util.stream.Collectors;

/** The public face is the document's, and nothing beside it can be seen (LANGUAGE.md 1, 2, 5, 11). */
public final class FaceTest {
    private static final int MOST_CLASSES = 12;
    private static final int MOST_FIELDS = 20;
    private static final int MOST_PARAMETERS = 7;
    private static final String[] METHODS = {
        "int begins(int,int)", "int holds(int,int)", "int offset(int)", "int clings(int)", "int curve(int,int)",
        "int passes(int,int)", "int rests(int)", "int loads(int,int)", "int told(int)", "int volts(int)",
        "int inverse(int,int)", "int band(int,int,int)", "int bands()", "int lasts(int,int)", "int under(int)",
        "int setting(int)", "int type(int)", "int clear()", "int does()", "int back()", "int refused(int)",
        "long digest()"};

    public static void main(String[] args) {
        Check.due("NONE", GaugeBounds.NONE, -10000001);
        Check.due("BAD", GaugeBounds.BAD, -10000002);
        Check.due("NO", GaugeBounds.NO, -10000003);
        Check.due("FULL", GaugeBounds.FULL, -10000004);
        int modifiers = GaugeBounds.class.getModifiers();
        Check.holds("public and final", Modifier.isPublic(modifiers) && Modifier.isFinal(modifiers));
        methods();
        constructors();
        fields();
        classesInside();
        Check.end("FaceTest");
    }

    private static void methods() {
        Set<String> seen = new TreeSet<>();
        for (Method m : GaugeBounds.class.getDeclaredMethods()) {
            String face = m.getReturnType() + " " + m.getName() + Arrays.stream(m.getParameterTypes())
                .map(Class::getName).collect(Collectors.joining(",", "(", ")"));
            if (!Modifier.isPrivate(m.getModifiers()) && !m.isSynthetic()) {
                seen.add(face);
            }
        }
        Set<String> due = new TreeSet<>(Arrays.asList(METHODS));
        Check.holds("methods " + seen, seen.equals(due));
    }

    private static void constructors() {
        Constructor<?>[] all = GaugeBounds.class.getDeclaredConstructors();
        Check.due("constructors", all.length, 1);
        Check.holds("public, without numbers",
            Modifier.isPublic(all[0].getModifiers()) && all[0].getParameterCount() == 0);
    }

    private static void fields() {
        Set<String> constants = Set.of("NONE", "BAD", "NO", "FULL");
        for (Field f : GaugeBounds.class.getDeclaredFields()) {
            boolean open = !Modifier.isPrivate(f.getModifiers());
            Check.holds("only the constants are open: " + f, open == constants.contains(f.getName()));
            staticIsFinal(f);
        }
    }

    private static void classesInside() {
        Class<?>[] all = GaugeBounds.class.getDeclaredClasses();
        Check.holds("classes", all.length > 0 && all.length < MOST_CLASSES);
        for (Class<?> inside : all) {
            int modifiers = inside.getModifiers();
            Check.holds("static, not open: " + inside, Modifier.isStatic(modifiers)
                && !Modifier.isPublic(modifiers) && !Modifier.isProtected(modifiers));
            for (Field f : inside.getDeclaredFields()) {
                staticIsFinal(f);
            }
            small(inside);
        }
        small(GaugeBounds.class);
    }

    private static void small(Class<?> one) {
        long fields = Arrays.stream(one.getDeclaredFields()).filter(f -> !Modifier.isStatic(f.getModifiers())).count();
        Check.holds("fields of " + one, fields <= MOST_FIELDS);
        for (Method m : one.getDeclaredMethods()) {
            Check.holds("parameters of " + m, m.getParameterCount() <= MOST_PARAMETERS);
            boolean bearsPublicName = Arrays.stream(METHODS).anyMatch(p -> p.contains(" " + m.getName() + "("));
            Check.holds("no private method bears a public name: " + m,
                !Modifier.isPrivate(m.getModifiers()) || !bearsPublicName);
        }
    }

    private static void staticIsFinal(Field f) {
        Check.holds("static is final: " + f,
            !Modifier.isStatic(f.getModifiers()) || Modifier.isFinal(f.getModifiers()));
    }
}
