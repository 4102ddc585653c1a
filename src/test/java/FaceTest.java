import java.lang.reflect.Constructor;
import java.lang.reflect.Field;
import java.lang.reflect.Method;
import java.lang.reflect.Modifier;
import java.util.TreeSet;

/** The public face is the document's, and no more; no private method bears the name of one of it. */
public final class FaceTest {
    private final TreeSet<String> declared = new TreeSet<>();
    private final TreeSet<String> wanted = new TreeSet<>();
    private final TreeSet<String> names = new TreeSet<>();

    public static void main(String[] args) {
        Due due = new Due("FaceTest");
        FaceTest test = new FaceTest();
        classAndConstant(due);
        test.constructor(due);
        test.methods(due);
        test.noMore(due);
        test.names(due);
        due.end();
    }

    private FaceTest() {
        for (Method method : FeeRules.class.getDeclaredMethods()) {
            if (!Modifier.isPrivate(method.getModifiers()) && !method.isSynthetic()) {
                StringBuilder types = new StringBuilder();
                for (Class<?> type : method.getParameterTypes()) {
                    types.append(types.length() == 0 ? "" : ", ").append(type.getName());
                }
                boolean isPlain = Modifier.isPublic(method.getModifiers()) && !Modifier.isStatic(method.getModifiers());
                declared.add((isPlain ? "" : "not plain: ") + method.getReturnType().getName() + " "
                    + method.getName() + "(" + types + ")");
            }
        }
    }

    private static void classAndConstant(Due due) {
        due.of("The public face", "public final class FeeRules {");
        int modifiers = FeeRules.class.getModifiers();
        due.is("it is public and final", Modifier.isPublic(modifiers) && Modifier.isFinal(modifiers), true);
        due.of("The public face", "public static final int NONE = -1;");
        due.is("NONE", FeeRules.NONE, -1);
        StringBuilder found = new StringBuilder();
        for (Field field : FeeRules.class.getDeclaredFields()) {
            if (!Modifier.isPrivate(field.getModifiers()) && !field.isSynthetic()) {
                found.append(Modifier.toString(field.getModifiers())).append(' ');
                found.append(field.getType()).append(' ').append(field.getName()).append(';');
            }
        }
        due.is("the fields", found.toString(), "public static final int NONE;");
    }

    private void constructor(Due due) {
        due.of("The public face", "public FeeRules();");
        Constructor<?>[] all = FeeRules.class.getDeclaredConstructors();
        due.is("constructors", all.length, 1);
        due.is("its parameters", all[0].getParameterCount(), 0);
        due.is("it is public", Modifier.isPublic(all[0].getModifiers()), true);
    }

    private void methods(Due due) {
        due.of("The public face", "public int house(int flats);");
        method(due, "int house(int)");
        due.of("The public face", "public int fact(int house, int kind, long day, long v, long known);");
        method(due, "int fact(int, int, long, long, long)");
        due.of("The public face", "public boolean unit(int u);");
        method(due, "boolean unit(int)");
        due.of("The public face", "public int read(long from, long known);");
        method(due, "int read(long, long)");
        due.of("The public face", "public int edition(int k, int what);");
        method(due, "int edition(int, int)");
        due.of("The public face", "public boolean cap(int month, long cents);");
        method(due, "boolean cap(int, long)");
        due.of("The public face", "public boolean relief(int house, int kind, long from, long to);");
        method(due, "boolean relief(int, int, long, long)");
        due.of("The public face", "public boolean weight(int house, int flat, int w);");
        method(due, "boolean weight(int, int, int)");
        due.of("The public face", "public long bill(int house, int month, long on);");
        method(due, "long bill(int, int, long)");
        due.of("The public face", "public int walk(int house, int month, long on);");
        method(due, "int walk(int, int, long)");
        due.of("The public face", "public long line(int k, int what);");
        method(due, "long line(int, int)");
        due.of("The public face", "public int open(int k);");
        method(due, "int open(int)");
        due.of("The public face", "public int write(int i);");
        method(due, "int write(int)");
        due.of("The public face", "public long flat(int house, int month, long on, int flat);");
        method(due, "long flat(int, int, long, int)");
        due.of("The public face", "public long issue(int house, int month, long on);");
        method(due, "long issue(int, int, long)");
        due.of("The public face", "public long issued(int house, int month);");
        method(due, "long issued(int, int)");
        due.of("The public face", "public long reverse(int house, int month); }");
        method(due, "long reverse(int, int)");
    }

    private void method(Due due, String method) {
        wanted.add(method);
        names.add(method.substring(method.indexOf(' ') + 1, method.indexOf('(')));
        due.is(method, declared.contains(method) ? "" : "not there", "");
    }

    private void noMore(Due due) {
        due.of("The public face", "public final class FeeRules {");
        due.is("the methods", declared.toString(), wanted.toString());
    }

    private void names(Due due) {
        for (Method method : FeeRules.class.getDeclaredMethods()) {
            boolean bears = Modifier.isPrivate(method.getModifiers()) && names.contains(method.getName());
            due.is("private " + method.getName() + " bears a name of the face", bears, false);
        }
        for (Class<?> inside : FeeRules.class.getDeclaredClasses()) {
            boolean fits = Modifier.isStatic(inside.getModifiers()) && !Modifier.isPublic(inside.getModifiers())
                && !Modifier.isProtected(inside.getModifiers());
            due.is(inside.getName() + " is static and not public", fits, true);
            for (Method method : inside.getDeclaredMethods()) {
                boolean bears = Modifier.isPrivate(method.getModifiers()) && names.contains(method.getName());
                due.is(inside.getName() + "." + method.getName() + " bears a name of the face", bears, false);
            }
        }
    }
}
