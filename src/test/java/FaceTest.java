import java.io.IOException;
import java.lang.reflect.Constructor;
import java.lang.reflect.Field;
import java.lang.reflect.Method;
import java.lang.reflect.Modifier;
import java.nio.file.Files;
import java.nio.file.Path;
import java.util.Arrays;
import java.util.Set;
import java.util.TreeSet;
import java.util.regex.Matcher;
import java.util.regex.Pattern;

/** The public face is the one of the document, and nothing else of the class is seen outside. */
public final class FaceTest {
    private static final Set<String> METHODS = new TreeSet<>(Arrays.asList(
            "ask(int,int,int)", "askAll()", "cancel(int)", "change(int,int)", "step(int)",
            "set(int,int)", "type(char)", "clearText()", "undo()", "keep()", "restore()",
            "join(int,int)", "why(int)", "queue(int)", "work(int,int,int,int)",
            "bestWay(int,int,int)", "doneIn(int)", "count(int)", "spare()"));
    private static final Set<String> CONSTANTS = new TreeSet<>(Arrays.asList(
            "UNKNOWN", "BAD_VALUE", "FULL", "NOT_POSSIBLE", "NONE"));
    private static final String SECTIONS = "joins: ask askAll cancel change step set"
            + " texts: type clearText history: undo keep restore"
            + " what is told: join why queue work bestWay doneIn count spare";
    private static final Checks CHECKS = new Checks();

    public static void main(String[] args) throws IOException {
        CHECKS.of("face");
        int modifiers = JoinGrants.class.getModifiers();
        CHECKS.due("public", Modifier.isPublic(modifiers) ? 1 : 0, 1);
        CHECKS.due("final", Modifier.isFinal(modifiers) ? 1 : 0, 1);
        checkMethods();
        checkConstants();
        checkConstructors();
        checkClassesInside();
        checkSections();
        CHECKS.end("FaceTest");
    }

    private static void checkMethods() {
        Set<String> found = new TreeSet<>();
        for (Method method : JoinGrants.class.getDeclaredMethods()) {
            if (Modifier.isPrivate(method.getModifiers()) || method.isSynthetic()) {
                continue;
            }
            String whole = method.toString();
            found.add(method.getName() + whole.substring(whole.indexOf('(')));
            CHECKS.due(whole + " gives an int", method.getReturnType() == int.class ? 1 : 0, 1);
            CHECKS.due(whole + " is of an object", Modifier.isStatic(method.getModifiers()) ? 1 : 0, 0);
        }
        CHECKS.due("methods " + found, found.equals(METHODS) ? 1 : 0, 1);
    }

    private static void checkConstants() {
        Set<String> found = new TreeSet<>();
        for (Field field : JoinGrants.class.getDeclaredFields()) {
            if (!Modifier.isPrivate(field.getModifiers())) {
                found.add(field.getName());
            }
        }
        CHECKS.due("constants " + found, found.equals(CONSTANTS) ? 1 : 0, 1);
        CHECKS.due("UNKNOWN", JoinGrants.UNKNOWN, -1);
        CHECKS.due("BAD_VALUE", JoinGrants.BAD_VALUE, -2);
        CHECKS.due("FULL", JoinGrants.FULL, -3);
        CHECKS.due("NOT_POSSIBLE", JoinGrants.NOT_POSSIBLE, -4);
        CHECKS.due("NONE", JoinGrants.NONE, -5);
    }

    private static void checkConstructors() {
        Constructor<?>[] constructors = JoinGrants.class.getDeclaredConstructors();
        CHECKS.due("constructors", constructors.length, 1);
        CHECKS.due("its arguments", constructors[0].getParameterCount(), 0);
        CHECKS.due("it is public", Modifier.isPublic(constructors[0].getModifiers()) ? 1 : 0, 1);
    }

    /** LANGUAGE.md, rules 1 and 2: static, not public, no method named as one of the face. */
    private static void checkClassesInside() {
        for (Class<?> inside : JoinGrants.class.getDeclaredClasses()) {
            int modifiers = inside.getModifiers();
            CHECKS.due(inside + " is static", Modifier.isStatic(modifiers) ? 1 : 0, 1);
            CHECKS.due(inside + " is public", Modifier.isPublic(modifiers) ? 1 : 0, 0);
            for (Method method : inside.getDeclaredMethods()) {
                boolean borrowed = METHODS.stream().anyMatch(m -> m.startsWith(method.getName() + "("));
                CHECKS.due(method + " has a name of the face", borrowed ? 1 : 0, 0);
            }
        }
    }

    /** What the interface says ahead of the calls, and which calls stand behind it. */
    private static void checkSections() throws IOException {
        String code = Files.readString(Path.of("src/main/java/JoinGrants.java"));
        Matcher parts = Pattern.compile("(?m)^ {4}(?:// ---- (.*)|public int (\\w+)\\(.*)$").matcher(code);
        StringBuilder found = new StringBuilder();
        while (parts.find()) {
            found.append(' ').append(parts.group(1) == null ? parts.group(2) : parts.group(1) + ":");
        }
        CHECKS.due("sections" + found, found.toString().equals(" " + SECTIONS) ? 1 : 0, 1);
    }
}
