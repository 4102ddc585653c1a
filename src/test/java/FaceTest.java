import java.lang.reflect.Constructor;
import java.lang.reflect.Field;
import java.lang.reflect.Method;
import java.lang.reflect.Modifier;
import java.util.TreeSet;

/** The public face is the document's, and no more; no other method bears the name of one of it. */
public final class FaceTest {
    private static final String[] FACE = {
        "boolean cap(int, long)", "boolean relief(int, int, long, long)", "boolean unit(int)",
        "boolean weight(int, int, int)", "int edition(int, int)", "int fact(int, int, long, long, long)",
        "int house(int)", "int open(int)", "int read(long, long)", "int walk(int, int, long)", "int write(int)",
        "long bill(int, int, long)", "long flat(int, int, long, int)", "long issue(int, int, long)",
        "long issued(int, int)", "long line(int, int)", "long reverse(int, int)"};

    public static void main(String[] args) {
        Due due = new Due("FaceTest");
        due.is("the class is public and final",
            Modifier.isPublic(FeeRules.class.getModifiers()) && Modifier.isFinal(FeeRules.class.getModifiers()), true);
        due.is("the methods", methods().toString(), String.join("; ", FACE));
        constructors(due);
        fields(due);
        names(due);
        due.end();
    }

    private static String methods() {
        TreeSet<String> found = new TreeSet<>();
        for (Method method : FeeRules.class.getDeclaredMethods()) {
            if (!Modifier.isPrivate(method.getModifiers()) && !method.isSynthetic()) {
                StringBuilder types = new StringBuilder();
                for (Class<?> type : method.getParameterTypes()) {
                    types.append(types.length() == 0 ? "" : ", ").append(type.getName());
                }
                boolean isPlain = Modifier.isPublic(method.getModifiers()) && !Modifier.isStatic(method.getModifiers());
                found.add((isPlain ? "" : "not plain: ") + method.getReturnType().getName() + " "
                    + method.getName() + "(" + types + ")");
            }
        }
        return String.join("; ", found);
    }

    private static void constructors(Due due) {
        Constructor<?>[] all = FeeRules.class.getDeclaredConstructors();
        due.is("constructors", all.length, 1);
        due.is("its parameters", all[0].getParameterCount(), 0);
        due.is("it is public", Modifier.isPublic(all[0].getModifiers()), true);
    }

    private static void fields(Due due) {
        String found = "";
        for (Field field : FeeRules.class.getDeclaredFields()) {
            if (!Modifier.isPrivate(field.getModifiers())) {
                found += Modifier.toString(field.getModifiers()) + " " + field.getType() + " " + field.getName() + ";";
            }
        }
        due.is("the fields", found, "public static final int NONE;");
    }

    private static void names(Due due) {
        TreeSet<String> face = new TreeSet<>();
        for (String method : FACE) {
            face.add(method.substring(method.indexOf(' ') + 1, method.indexOf('(')));
        }
        due.is("names of the face", face.size(), FACE.length);
        for (Class<?> inside : FeeRules.class.getDeclaredClasses()) {
            boolean fits = Modifier.isStatic(inside.getModifiers()) && !Modifier.isPublic(inside.getModifiers())
                && !Modifier.isProtected(inside.getModifiers());
            due.is(inside.getName() + " is static and not public", fits, true);
            for (Method method : inside.getDeclaredMethods()) {
                due.is(inside.getName() + "." + method.getName() + " bears a name of the face",
                    face.contains(method.getName()), false);
            }
        }
    }
}
