import java.lang.reflect.Constructor;
import java.lang.reflect.Field;
import java.lang.reflect.Method;
import java.lang.reflect.Modifier;
import java.util.TreeSet;

/** The public face of the document, and nothing else that can be seen from outside (LANGUAGE.md, rules 1 and 5). */
public final class FaceTest {
    private static final String[] METHODS = {
        "public boolean MastLog.key(int,int)",
        "public boolean MastLog.limit(int,boolean,int)",
        "public boolean MastLog.marked(int)",
        "public boolean MastLog.move(int,int,int)",
        "public boolean MastLog.stands(int,int,int,int)",
        "public int MastLog.ask(int,int,int)",
        "public int MastLog.at(int,int)",
        "public int MastLog.drop(int)",
        "public int MastLog.look(int,int)",
        "public int MastLog.mark(int,int)",
        "public int MastLog.meet(int)",
        "public int MastLog.order(int)",
        "public int MastLog.ordered(int)",
        "public int MastLog.read(int,int)",
    };
    private static final Checks checks = new Checks("FaceTest");

    public static void main(String[] args) {
        int classModifiers = MastLog.class.getModifiers();
        checks.due("public final class", classModifiers, Modifier.PUBLIC | Modifier.FINAL);
        constructors();
        methods();
        fields();
        for (Class<?> inside : MastLog.class.getDeclaredClasses()) {
            int modifiers = inside.getModifiers();
            checks.due(inside + " is static", Modifier.isStatic(modifiers), true);
            checks.due(inside + " is not public or protected",
                Modifier.isPublic(modifiers) || Modifier.isProtected(modifiers), false);
        }
        if (!checks.finish()) {
            System.exit(1);
        }
    }

    private static void constructors() {
        Constructor<?>[] all = MastLog.class.getDeclaredConstructors();
        checks.due("constructors", all.length, 1);
        checks.due("its parameters", all[0].getParameterCount(), 0);
        checks.due("it is public", Modifier.isPublic(all[0].getModifiers()), true);
    }

    private static void methods() {
        TreeSet<String> shown = new TreeSet<>();
        TreeSet<String> publicNames = new TreeSet<>();
        for (Method method : MastLog.class.getDeclaredMethods()) {
            if (!Modifier.isPrivate(method.getModifiers())) {
                shown.add(method.toString());
                publicNames.add(method.getName());
            }
        }
        checks.due("the methods " + shown, shown.equals(new TreeSet<>(java.util.List.of(METHODS))), true);
        for (Method method : MastLog.class.getDeclaredMethods()) {
            if (Modifier.isPrivate(method.getModifiers())) {
                checks.due("private " + method + " bears a public name", publicNames.contains(method.getName()), false);
            }
        }
    }

    private static void fields() {
        int shown = 0;
        for (Field field : MastLog.class.getDeclaredFields()) {
            int modifiers = field.getModifiers();
            shown += Modifier.isPrivate(modifiers) ? 0 : 1;
            if (Modifier.isStatic(modifiers)) {
                checks.due(field + " is final", Modifier.isFinal(modifiers), true);
            }
        }
        checks.due("fields that are not private: NONE and GAP", shown, 2);
    }
}
