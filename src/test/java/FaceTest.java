import java.lang.reflect.Field;
import java.lang.reflect.Method;
import java.lang.reflect.Modifier;
import java.util.Arrays;
import java.util.Set;
import java.util.TreeSet;

/** The class has the document's public face, and no other member is to be seen from outside. */
public final class FaceTest {
    private static final Set<String> METHODS = Set.of(
            "boolean begin(int)", "boolean feed(int)", "boolean cut(int)", "int encode()", "int decode()",
            "boolean push(int)", "boolean change(int, int)", "boolean keep(int)", "int at(int, int)",
            "int size(int)", "int step(int, int)", "long count(int)", "int learnt(int, int, int, int)",
            "int node(int, int, int, int)");

    public static void main(String[] args) {
        Class<?> face = EscapeCoder.class;
        Due.yes("public and final", Modifier.isPublic(face.getModifiers()) && Modifier.isFinal(face.getModifiers()));
        Set<String> seen = new TreeSet<>();
        for (Method method : face.getDeclaredMethods()) {
            if (!Modifier.isPrivate(method.getModifiers()) && !method.isSynthetic()) {
                seen.add(told(method));
                Due.yes("public: " + method, Modifier.isPublic(method.getModifiers()));
            }
        }
        Due.yes("methods: " + seen, seen.equals(METHODS));
        for (Field field : face.getDeclaredFields()) {
            boolean bad = field.getName().equals("BAD");
            Due.yes("field " + field, bad || Modifier.isPrivate(field.getModifiers()));
            Due.yes("static is final: " + field,
                    !Modifier.isStatic(field.getModifiers()) || Modifier.isFinal(field.getModifiers()));
        }
        Due.same("constructors", face.getConstructors().length, 1);
        for (Class<?> inside : face.getDeclaredClasses()) {
            Due.yes("static: " + inside, Modifier.isStatic(inside.getModifiers()));
        }
        Due.end();
    }

    private static String told(Method method) {
        String types = Arrays.toString(method.getParameterTypes());
        return method.getReturnType() + " " + method.getName() + "(" + types.substring(1, types.length() - 1) + ")";
    }
}
