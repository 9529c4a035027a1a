import java.io.IOException;
import java.lang.reflect.InvocationTargetException;
import java.lang.reflect.Method;
import java.lang.reflect.Modifier;
import java.nio.file.Files;
import java.nio.file.Path;
import java.util.regex.Matcher;
import java.util.regex.Pattern;

/** README.md: its calls answer what it says, it names every call, and the command for the tests is there. */
public final class ReadmeTests {
    private static final Pattern NEW_OBJECT = Pattern.compile("OneHinge house = new OneHinge\\(\\);");
    private static final Pattern CALL = Pattern.compile("house\\.(\\w+)\\((.*)\\); +// (-?\\d+):.*");

    private final Check check = new Check();

    public static void main(String[] args) throws IOException, ReflectiveOperationException {
        if (args.length == 0) {
            System.out.println("the path of OneHinge.java is due");
            System.exit(1);
        }
        Path root = Path.of(args[0]).toAbsolutePath().getParent().getParent().getParent().getParent();
        String page = Files.readString(root.resolve("README.md"));
        ReadmeTests tests = new ReadmeTests();
        tests.callsAnswerWhatItSays(page);
        tests.namesEveryCall(page);
        tests.namesTheCommand(page, root);
        tests.check.end();
    }

    private void callsAnswerWhatItSays(String page) throws ReflectiveOperationException {
        OneHinge house = null;
        int calls = 0;
        for (String line : page.split("\n")) {
            Matcher call = CALL.matcher(line);
            if (NEW_OBJECT.matcher(line).matches()) {
                house = new OneHinge();
            } else if (call.matches() && house != null) {
                calls++;
                check.due(line, answer(house, call.group(1), call.group(2)), Long.parseLong(call.group(3)));
            }
        }
        check.holds("README.md makes, tells and asks an object", calls >= 10);
    }

    private static int answer(OneHinge house, String name, String row) throws ReflectiveOperationException {
        String[] numbers = row.isEmpty() ? new String[0] : row.split(", ");
        for (Method method : OneHinge.class.getMethods()) {
            Class<?>[] types = method.getParameterTypes();
            if (method.getName().equals(name) && types.length == numbers.length) {
                Object[] values = new Object[types.length];
                for (int i = 0; i < types.length; i++) {
                    long value = Long.decode(numbers[i].replace("L", ""));
                    values[i] = types[i] == long.class ? (Object) value : (Object) (int) value;
                }
                return (Integer) method.invoke(house, values);
            }
        }
        throw new InvocationTargetException(null, "no call " + name + " of " + numbers.length);
    }

    private void namesEveryCall(String page) {
        for (Method method : OneHinge.class.getDeclaredMethods()) {
            if (Modifier.isPublic(method.getModifiers())) {
                String name = "`" + method.getName();
                check.holds(name + "` stands in README.md", page.contains(name + "`") || page.contains(name + "("));
            }
        }
    }

    private void namesTheCommand(String page, Path root) {
        check.holds(".ci/run stands in README.md", page.contains("\n.ci/run\n"));
        check.holds(".ci/run is there and can be run", Files.isExecutable(root.resolve(".ci/run")));
    }
}
