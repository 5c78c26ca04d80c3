import java.io.IOException;
import java.lang.reflect.Method;
import java.lang.reflect.Modifier;
import java.nio.file.Files;
import java.nio.file.Path;
import java.util.Set;
import java.util.TreeSet;
import java.util.regex.Matcher;
import java.util.regex.Pattern;

/** The calls that README.md shows answer what it says, and it shows every call. Its argument is the class's file. */
public final class ReadmeTest {
    private static final Pattern CALL = Pattern.compile("x\\.(\\w+)\\((.*?)\\);\\s+// (-?\\d+)(:.*)?");

    private final Check check = new Check("readme");
    private final TowerAppeal x = new TowerAppeal();
    private final Set<String> shown = new TreeSet<>();

    public static void main(String[] args) throws IOException, ReflectiveOperationException {
        Path root = Path.of(args[0]).toAbsolutePath().getParent().getParent().getParent().getParent();
        ReadmeTest test = new ReadmeTest();
        for (String line : Files.readAllLines(root.resolve("README.md"))) {
            if (line.startsWith("x.")) {
                test.tryLine(line);
            }
        }
        test.checkAllShown();
        test.check.finish();
    }

    private void tryLine(String line) throws ReflectiveOperationException {
        Matcher call = CALL.matcher(line);
        check.isTrue("a line that isn't a call with its answer: " + line, call.matches());
        if (call.matches()) {
            shown.add(call.group(1));
            check.is(line, answer(call.group(1), call.group(2)), Integer.parseInt(call.group(3)));
        }
    }

    private int answer(String name, String arguments) throws ReflectiveOperationException {
        for (Method method : TowerAppeal.class.getMethods()) {
            if (method.getName().equals(name)) {
                return (Integer) method.invoke(x, values(arguments));
            }
        }
        throw new NoSuchMethodException(name);
    }

    private static Object[] values(String arguments) {
        String[] texts = arguments.isEmpty() ? new String[0] : arguments.split(", ");
        Object[] values = new Object[texts.length];
        for (int i = 0; i < texts.length; i++) {
            boolean isFlag = texts[i].equals("true") || texts[i].equals("false");
            values[i] = isFlag ? (Object) Boolean.valueOf(texts[i]) : (Object) Integer.decode(texts[i]);
        }
        return values;
    }

    private void checkAllShown() {
        for (Method method : TowerAppeal.class.getDeclaredMethods()) {
            if (Modifier.isPublic(method.getModifiers())) {
                check.isTrue(method.getName() + " isn't shown", shown.contains(method.getName()));
            }
        }
    }
}
