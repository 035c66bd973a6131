import java.io.IOException;
import java.lang.reflect.Constructor;
import java.lang.reflect.Field;
import java.lang.reflect.Method;
import java.lang.reflect.Modifier;
import java.nio.file.Files;
import java.nio.file.Path;
import java.util.ArrayList;
import java.util.List;
import java.util.Random;
import java.util.regex.Matcher;
import java.util.regex.Pattern;

/** Those rules of LANGUAGE.md that can be seen in the source, by reflection or by calls; FaceTest has rule 1. */
public final class LanguageTest {
    private static final String SOURCE = "src/main/java/MastLog.java";
    private static final int[] WILD = {
        Integer.MIN_VALUE, Integer.MIN_VALUE + 1, -131073, -131072, -2, -1, 2, 5, 6, 8, 10, 23, 24, 25, 28, 29,
        131072, 131073, Integer.MAX_VALUE - 1, Integer.MAX_VALUE,
    };

    public static void main(String[] args) {
        Cases.run(LanguageTest.class);
    }

    private static String code() throws IOException {
        return Files.readString(Path.of(SOURCE)).replaceAll("(?s)/\\*.*?\\*/", " ").replaceAll("//[^\\n]*", " ");
    }

    private static void dueWithout(Checks checks, String... patterns) throws IOException {
        String code = code();
        for (String pattern : patterns) {
            Matcher found = Pattern.compile(pattern).matcher(code);
            checks.due("the source has " + pattern, found.find(), false);
        }
    }

    private static List<Class<?>> allClasses() {
        List<Class<?>> all = new ArrayList<>(List.of(MastLog.class.getDeclaredClasses()));
        all.add(MastLog.class);
        return all;
    }

    /** Any of the calls, with any arguments: its answer, a boolean as 1 or 0. */
    private static int anyCall(MastLog log, Random random) {
        int g = any(random, 2);
        int i = any(random, 24);
        int j = any(random, 24);
        int how = any(random, 6);
        int v = random.nextInt(5) == 0 ? MastLog.GAP : any(random, 131073);
        switch (random.nextInt(18)) {
            case 0: return log.drop(g);
            case 1: return log.limit(g, random.nextBoolean(), v) ? 1 : 0;
            case 2: return log.move(g, i, j) ? 1 : 0;
            case 3: return log.key(g, v) ? 1 : 0;
            case 4: return log.ask(g, any(random, 10), how);
            case 5: return log.stands(g, i, j, how) ? 1 : 0;
            case 6: return log.mark(g, how);
            case 7: return log.marked(i) ? 1 : 0;
            case 8: return log.meet(how);
            case 9: return log.order(g);
            case 10: return log.ordered(i);
            case 11: return log.at(g, i);
            case 12: return log.look(g, any(random, 8));
            default: return log.read(g, v);
        }
    }

    private static int any(Random random, int bound) {
        int kind = random.nextInt(16);
        if (kind == 0) {
            return random.nextInt();
        }
        return kind == 1 ? WILD[random.nextInt(WILD.length)] : random.nextInt(bound);
    }

    static void rule02_noLambdaAndNoMethodReference(Checks checks) throws IOException {
        dueWithout(checks, "->", "::");
    }

    static void rule03_noNaN(Checks checks) throws IOException {
        dueWithout(checks, "NaN", "Float\\.", "Double\\.", "\\[\\]\\s*\\[\\]");
    }

    static void rule04_noLibraryButWhatIsListed(Checks checks) throws IOException {
        dueWithout(checks, "\\bpackage\\b", "\\bimport\\b", "\\bjava\\w*\\.", "\\bSystem\\.(?!arraycopy)", "Exact\\(");
    }

    static void rule05_staticFieldsAreFinalIntsAlone(Checks checks) throws IOException {
        for (Class<?> each : allClasses()) {
            for (Field field : each.getDeclaredFields()) {
                if (Modifier.isStatic(field.getModifiers())) {
                    checks.due(field + " is final", Modifier.isFinal(field.getModifiers()), true);
                    checks.due(field + " is an int", field.getType() == int.class, true);
                }
            }
        }
        dueWithout(checks, "\\bstatic\\s*\\{");
    }

    // The document wants no exception of any call, so the class has neither a throw nor a try.
    static void rule06_noExceptions(Checks checks) throws IOException {
        dueWithout(checks, "\\bthrow\\b", "\\bthrows\\b", "\\btry\\b", "\\bcatch\\b", "\\bfinally\\b");
        dueWithout(checks, "\\bsynchronized\\b", "\\bassert\\b", "\\bequals\\b", "\\bhashCode\\b", "\\btoString\\b");
    }

    // Far beyond the 512 calls too: what an object answers there is free, but it answers.
    static void rule07_noCallThrowsForAnyArgumentsInAnyState(Checks checks) {
        for (int run = 0; run < 300; run++) {
            Random random = new Random(run);
            MastLog log = new MastLog();
            int answered = 0;
            for (int call = 0; call < 3000; call++) {
                anyCall(log, random);
                answered++;
            }
            checks.due("calls that answered in run " + run, answered, 3000);
        }
    }

    static void rule11_fewParametersFieldsAndClasses(Checks checks) {
        checks.due("at most twelve classes", allClasses().size() <= 12, true);
        for (Class<?> each : allClasses()) {
            int fields = 0;
            for (Field field : each.getDeclaredFields()) {
                fields += Modifier.isStatic(field.getModifiers()) ? 0 : 1;
            }
            checks.due(each + " has at most twenty fields", fields <= 20, true);
            for (Method method : each.getDeclaredMethods()) {
                checks.due(method + " takes at most seven", method.getParameterCount() <= 7, true);
            }
            for (Constructor<?> made : each.getDeclaredConstructors()) {
                checks.due(made + " takes at most seven", made.getParameterCount() <= 7, true);
            }
        }
    }

    // Each object has its own state: what happens at one never shows at another.
    static void rule13_theSameCallsGiveTheSameAnswers(Checks checks) {
        for (int run = 0; run < 300; run++) {
            Random first = new Random(run);
            Random second = new Random(run);
            Random other = new Random(-1 - run);
            MastLog one = new MastLog();
            MastLog two = new MastLog();
            MastLog beside = new MastLog();
            for (int call = 0; call < 512; call++) {
                int answer = anyCall(one, first);
                anyCall(beside, other);
                checks.due("run " + run + ", call " + call, anyCall(two, second), answer);
            }
        }
    }
}
