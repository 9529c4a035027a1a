import java.io.IOException;
import java.lang.reflect.Field;
import java.lang.reflect.Method;
import java.lang.reflect.Modifier;
import java.nio.file.Files;
import java.nio.file.Path;
import java.util.Arrays;
import java.util.Set;
import java.util.TreeSet;
import java.util.regex.Pattern;
import java.util.stream.Collectors;

/** The public face, and what of the language's rules can be seen in the class and its source. */
public final class FaceTests {
    private static final Set<String> FACE = new TreeSet<>(Arrays.asList(
            "write(long, int)", "erase()", "fault()", "house()", "leaf(int, int)", "room(int, int)", "as(int, int)",
            "person(int)", "push(int, int, int)", "hours(int)", "leave(int)", "enter(int, int)", "keep(int)",
            "back(int)", "turn(int, int, int)", "best(int, int)", "widest(int)", "further(int)", "share(int, int)",
            "errands(int, int, int)", "slam(int, int, int)", "fire(int, int)", "seen(int, int)", "forget()",
            "least(int)", "count(int)"));
    private static final Set<String> CONSTANTS =
            new TreeSet<>(Arrays.asList("NONE", "UNKNOWN", "OUTSIDE", "NOT", "FULL"));
    private static final String[] FORBIDDEN = {"throw", "throws", "try", "catch", "finally", "synchronized", "assert",
        "import", "package", "protected", "native", "volatile", "double", "float", "->", "::", "System.nanoTime",
        "System.currentTimeMillis", "Random", "Thread", "Exact"};

    private final Check check = new Check();

    public static void main(String[] args) throws IOException {
        FaceTests tests = new FaceTests();
        tests.hasTheFace();
        tests.hasNoOtherMembers();
        tests.classesInsideAreStatic();
        if (args.length > 0) {
            tests.keepsToTheLanguage(Files.readString(Path.of(args[0])));
        }
        tests.check.end();
    }

    private void hasTheFace() {
        Set<String> found = new TreeSet<>();
        for (Method method : OneHinge.class.getDeclaredMethods()) {
            if (Modifier.isPublic(method.getModifiers())) {
                found.add(signature(method));
                check.holds(method + " answers an int", method.getReturnType() == int.class);
                check.holds(method + " is an object's", !Modifier.isStatic(method.getModifiers()));
            }
        }
        check.holds("the methods are the document's: " + found, found.equals(FACE));
        check.holds("the class is public and final", OneHinge.class.getModifiers() == (Modifier.PUBLIC | Modifier.FINAL));
        check.holds("one constructor", OneHinge.class.getDeclaredConstructors().length == 1);
        check.due("NONE", OneHinge.NONE, -1);
        check.due("UNKNOWN", OneHinge.UNKNOWN, -2);
        check.due("OUTSIDE", OneHinge.OUTSIDE, -3);
        check.due("NOT", OneHinge.NOT, -4);
        check.due("FULL", OneHinge.FULL, -5);
    }

    private static String signature(Method method) {
        return method.getName() + Arrays.stream(method.getParameterTypes())
                .map(Class::getName).collect(Collectors.joining(", ", "(", ")"));
    }

    private void hasNoOtherMembers() {
        Set<String> constants = new TreeSet<>();
        for (Field field : OneHinge.class.getDeclaredFields()) {
            if (!Modifier.isPrivate(field.getModifiers())) {
                constants.add(field.getName());
            }
        }
        check.holds("the constants are the document's: " + constants, constants.equals(CONSTANTS));
        for (Method method : OneHinge.class.getDeclaredMethods()) {
            int modifiers = method.getModifiers();
            check.holds(method + " is public or private", Modifier.isPublic(modifiers) || Modifier.isPrivate(modifiers));
        }
    }

    private void classesInsideAreStatic() {
        Set<String> names = FACE.stream().map(one -> one.substring(0, one.indexOf('('))).collect(Collectors.toSet());
        Class<?>[] inside = OneHinge.class.getDeclaredClasses();
        check.holds("at most twelve classes", inside.length < 12);
        for (Class<?> one : inside) {
            check.holds(one + " is static", Modifier.isStatic(one.getModifiers()));
            check.holds(one + " has at most twenty fields", Arrays.stream(one.getDeclaredFields())
                    .filter(field -> !Modifier.isStatic(field.getModifiers())).count() <= 20);
            for (Method method : one.getDeclaredMethods()) {
                check.holds(method + " bears no name of the face", !names.contains(method.getName()));
                check.holds(method + " takes at most seven", method.getParameterCount() <= 7);
            }
            for (Field field : one.getDeclaredFields()) {
                check.holds(field + " is no static state", !Modifier.isStatic(field.getModifiers())
                        || Modifier.isFinal(field.getModifiers()));
            }
        }
    }

    private void keepsToTheLanguage(String source) {
        String code = source.replaceAll("(?s)/\\*.*?\\*/", " ").replaceAll("//[^\n]*", " ");
        for (String word : FORBIDDEN) {
            String pattern = word.matches("\\w+") ? "\\b" + word + "\\b" : Pattern.quote(word);
            check.holds("no '" + word + "' in the source", !Pattern.compile(pattern).matcher(code).find());
        }
        check.holds("signs 1 to 127 alone", source.chars().allMatch(sign -> sign > 0 && sign < 128));
    }
}
