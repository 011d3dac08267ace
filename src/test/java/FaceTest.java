import java.lang.reflect.Field;
import java.lang.reflect.Method;
import java.lang.reflect.Modifier;
import java.util.Arrays;
import java.util.HashSet;
import java.util.Set;
import java.util.TreeSet;

/** The class has the document's face and nothing more that can be seen (rules 1, 5 and 11 of LANGUAGE.md). */
public final class FaceTest {
    private static final String IAE = " throws java.lang.IllegalArgumentException";
    private static final String BOTH = IAE + ",java.lang.IndexOutOfBoundsException";
    private static final String[] FACE = {
        "public void DeltaDesk.size(int,int)" + IAE,
        "public void DeltaDesk.put(int,int,long)" + BOTH,
        "public void DeltaDesk.move(int,int,int,int,int)" + BOTH,
        "public int DeltaDesk.octet(int,int)" + BOTH,
        "public int DeltaDesk.weak(int,int,int)" + BOTH,
        "public long DeltaDesk.strong(int,int,int)" + BOTH,
        "public int DeltaDesk.find(int,int,int,int)" + BOTH,
        "public int DeltaDesk.delta(int,int)" + IAE,
        "public int DeltaDesk.token(int,int)" + BOTH,
        "public int DeltaDesk.sent()",
        "public int DeltaDesk.patch()",
        "public boolean DeltaDesk.same()",
        "public int DeltaDesk.count(int)" + IAE,
    };
    private static final Checks checks = new Checks();

    public static void main(String[] args) {
        Class<?> face = DeltaDesk.class;
        checks.holds("public final class", Modifier.isPublic(face.getModifiers()) && Modifier.isFinal(face.getModifiers()));
        checks.due("constructors", face.getDeclaredConstructors().length, 1);
        checks.due("public constructors", face.getConstructors().length, 1);
        methods(face);
        for (Field field : face.getDeclaredFields()) {
            checks.holds("private: " + field, Modifier.isPrivate(field.getModifiers()));
        }
        noStaticState(face);
        for (Class<?> inside : face.getDeclaredClasses()) {
            int modifiers = inside.getModifiers();
            checks.holds("static, not public: " + inside,
                    Modifier.isStatic(modifiers) && !Modifier.isPublic(modifiers) && !Modifier.isProtected(modifiers));
            noStaticState(inside);
        }
        checks.end();
    }

    private static void methods(Class<?> face) {
        Set<String> seen = new TreeSet<>();
        Set<String> names = new HashSet<>();
        for (Method method : face.getDeclaredMethods()) {
            if (!Modifier.isPrivate(method.getModifiers())) {
                seen.add(method.toString());
                names.add(method.getName());
            }
        }
        checks.holds("the face is " + seen, seen.equals(new TreeSet<>(Arrays.asList(FACE))));
        ownNames(face, names);
        for (Class<?> inside : face.getDeclaredClasses()) {
            ownNames(inside, names);
        }
    }

    private static void ownNames(Class<?> of, Set<String> names) {
        for (Method method : of.getDeclaredMethods()) {
            checks.holds("at most seven parameters: " + method, method.getParameterCount() <= 7);
            if (Modifier.isPrivate(method.getModifiers())) {
                checks.holds("a name of its own: " + method, !names.contains(method.getName()));
            }
        }
    }

    private static void noStaticState(Class<?> of) {
        for (Field field : of.getDeclaredFields()) {
            int modifiers = field.getModifiers();
            checks.holds("final: " + field, !Modifier.isStatic(modifiers) || Modifier.isFinal(modifiers));
        }
    }
}
