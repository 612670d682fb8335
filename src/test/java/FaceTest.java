import java.lang.reflect.Constructor;
import java.lang.reflect.Field;
import java.lang.reflect.Method;
import java.lang.reflect.Modifier;
import java.util.Set;
import java.util.TreeSet;

/** The public face is the document's, and nothing else of the class can be seen from outside. */
public final class FaceTest {
    private static final Due due = new Due();

    private FaceTest() {
    }

    public static void main(String[] args) {
        due.begin("the face");
        due.is("NONE", NeighborBook.NONE, -1);
        due.holds("the class is public and final",
                Modifier.isPublic(NeighborBook.class.getModifiers())
                && Modifier.isFinal(NeighborBook.class.getModifiers()));
        methods();
        fields();
        constructors();
        classesInside();
        due.end();
    }

    private static void methods() {
        Set<String> want = new TreeSet<>(Set.of("type(long,int)", "tell(int)", "set(int,int)", "port(int,int)",
                "hear(int)", "tick(int)", "about(int,int)", "count(int)", "sent(int)", "neighbor(int,int)",
                "content(int,int,int)", "check()"));
        Set<String> names = new TreeSet<>();
        for (String call : want) {
            names.add(call.substring(0, call.indexOf('(')));
        }
        Set<String> seen = new TreeSet<>();
        for (Method method : NeighborBook.class.getDeclaredMethods()) {
            if (Modifier.isPrivate(method.getModifiers())) {
                due.holds("no private method is called " + method.getName(), !names.contains(method.getName()));
            } else {
                due.holds(method + " is public, not static and answers an int", method.getReturnType() == int.class
                        && Modifier.isPublic(method.getModifiers()) && !Modifier.isStatic(method.getModifiers()));
                seen.add(signature(method));
            }
        }
        due.holds("the methods are the document's: " + seen, seen.equals(want));
    }

    private static String signature(Method method) {
        StringBuilder text = new StringBuilder(method.getName()).append('(');
        for (Class<?> kind : method.getParameterTypes()) {
            text.append(text.charAt(text.length() - 1) == '(' ? "" : ",").append(kind.getName());
        }
        return text.append(')').toString();
    }

    private static void fields() {
        for (Field field : NeighborBook.class.getDeclaredFields()) {
            int modifiers = field.getModifiers();
            if (!Modifier.isPrivate(modifiers)) {
                due.holds("the one field to be seen is NONE, not " + field.getName(), field.getName().equals("NONE"));
            }
            if (Modifier.isStatic(modifiers)) {
                due.holds(field.getName() + " is final", Modifier.isFinal(modifiers));
            }
        }
    }

    private static void constructors() {
        Constructor<?>[] all = NeighborBook.class.getDeclaredConstructors();
        due.is("how many constructors", all.length, 1);
        due.holds("it is public and takes nothing",
                Modifier.isPublic(all[0].getModifiers()) && all[0].getParameterCount() == 0);
    }

    private static void classesInside() {
        for (Class<?> inside : NeighborBook.class.getDeclaredClasses()) {
            int modifiers = inside.getModifiers();
            due.holds(inside.getName() + " is static and not public", Modifier.isStatic(modifiers)
                    && !Modifier.isPublic(modifiers) && !Modifier.isProtected(modifiers));
        }
    }
}
