import java.lang.reflect.Constructor;
import java.lang.reflect.Field;
import java.lang.reflect.Method;
import java.lang.reflect.Modifier;
import java.nio.file.Files;
import java.nio.file.Path;
import java.util.Arrays;
import java.util.Set;
import java.util.TreeSet;

/** The face that the document gives, and what ../shared/LANGUAGE.md says of it and of the file. */
public final class FaceTest {
    private static final Checks checks = new Checks();
    private static final String FACE =
        "int write(int); int wipe(); int fault(); int lay(); int saying(int,int); int fact(int); int clash(int,int);"
        + " int pass(int); int say(int,int,int,int); int withdraw(int); int turn(int); int undo(); int behind(int);"
        + " int fall(int); int core(); int cut(); int truest(int); int married(); int trial(int,int);"
        + " int see(int,boolean); int forget(); int worlds(int); int must(int); int liars(int);"
        + " int chance(int,int,int); int year(int,int,int); int keep(); int back(); int count(int)";

    public static void main(String[] args) throws Exception {
        face();
        members();
        inside();
        source();
        checks.end();
    }

    private static void holds(String rule, boolean is) {
        checks.due(rule, is ? 1 : 0, 1);
    }

    private static void face() {
        holds("public and final", LieForce.class.getModifiers() == (Modifier.PUBLIC | Modifier.FINAL));
        Set<String> want = new TreeSet<>(Arrays.asList(FACE.split("; ")));
        Set<String> found = new TreeSet<>();
        for (Method method : LieForce.class.getDeclaredMethods()) {
            if (Modifier.isPublic(method.getModifiers())) found.add(told(method));
        }
        holds("the methods of the document: " + found, found.equals(want));
        Constructor<?>[] made = LieForce.class.getDeclaredConstructors();
        holds("one constructor", made.length == 1 && made[0].getParameterCount() == 0);
        Set<String> constants = new TreeSet<>();
        for (Field field : LieForce.class.getDeclaredFields()) {
            if (Modifier.isPublic(field.getModifiers())) constants.add(field.getName());
        }
        holds("the constants of the document: " + constants, constants.equals(Set.of("BAD", "NO", "FULL", "NONE")));
    }

    private static String told(Method method) {
        StringBuilder all = new StringBuilder();
        for (Class<?> parameter : method.getParameterTypes()) {
            all.append(all.length() == 0 ? "" : ",").append(parameter.getSimpleName());
        }
        return method.getReturnType().getSimpleName() + " " + method.getName() + "(" + all + ")";
    }

    private static void members() {
        for (Method method : LieForce.class.getDeclaredMethods()) {
            int is = method.getModifiers();
            holds("rule 1: " + method, Modifier.isPublic(is) || Modifier.isPrivate(is));
            if (Modifier.isPrivate(is)) holds("rule 1: the name " + method, !FACE.contains(" " + method.getName() + "("));
        }
        for (Field field : LieForce.class.getDeclaredFields()) {
            int is = field.getModifiers();
            holds("rule 1: " + field, Modifier.isPublic(is) || Modifier.isPrivate(is));
            if (Modifier.isStatic(is)) holds("rule 5: " + field, Modifier.isFinal(is));
        }
    }

    private static void inside() {
        Class<?>[] classes = LieForce.class.getDeclaredClasses();
        holds("rule 11: classes", classes.length <= 12);
        for (Class<?> one : classes) {
            int is = one.getModifiers();
            holds("rule 1: " + one, Modifier.isStatic(is) && !Modifier.isPublic(is) && !Modifier.isProtected(is));
            for (Method method : one.getDeclaredMethods()) {
                holds("rule 1: the name " + method, !FACE.contains(" " + method.getName() + "("));
                holds("rule 11: " + method, method.getParameterCount() <= 7);
            }
            for (Field field : one.getDeclaredFields()) {
                if (Modifier.isStatic(field.getModifiers())) {
                    holds("rule 5: " + field, Modifier.isFinal(field.getModifiers()));
                }
            }
        }
    }

    private static void source() throws Exception {
        String text = Files.readString(Path.of("src/main/java/LieForce.java"));
        String[] ruledOut = {
            "package ", "import ", "java.", "->", "::", "finally", "assert", "synchronized", "Exact", "Random", "Thread",
            "System.n", "System.c", "System.o", "System.e"
        };
        for (String word : ruledOut) {
            for (String line : text.split("\n")) {
                String code = line.strip();
                boolean isComment = code.startsWith("//") || code.startsWith("*") || code.startsWith("/*");
                holds(word + " in " + code, isComment || !code.contains(word));
            }
        }
        holds("signs are plain", text.chars().allMatch(c -> c == '\n' || c >= 32 && c < 127));
    }
}
