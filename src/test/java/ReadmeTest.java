import java.io.IOException;
import java.lang.reflect.Method;
import java.nio.file.Files;
import java.nio.file.Path;
import java.util.Set;
import java.util.TreeSet;
import java.util.regex.Matcher;
import java.util.regex.Pattern;

/** The example in README.md, call by call with the answer that stands behind it; .ci/run says where the program is. */
public final class ReadmeTest {
    private static final Pattern CALL = Pattern.compile("market\\.(\\w+)\\(([-\\d, ]*)\\); +// (-?[\\d.]+): .*");

    public static void main(String[] args) throws IOException, ReflectiveOperationException {
        Path program = Path.of(System.getProperty("program", "src/main/java/Rescuemarket.java")).toAbsolutePath();
        Path root = program.getParent().getParent().getParent().getParent();
        String readme = Files.readString(root.resolve("README.md"));
        Set<String> shown = new TreeSet<>();
        Rescuemarket market = new Rescuemarket();
        for (String line : readme.substring(readme.indexOf("```java")).split("```")[1].split("\n")) {
            Matcher matcher = CALL.matcher(line);
            if (matcher.matches()) {
                shown.add(matcher.group(1));
                Object answer = answer(market, matcher.group(1), matcher.group(2).split(", *"));
                Due.is(line, Float.parseFloat(matcher.group(3)), ((Number) answer).floatValue());
            } else if (line.startsWith("market.")) {
                Due.is("a call whose answer is told", true, line);
            }
        }
        Due.is("the methods in the example", methods(), shown);
        for (String method : methods()) {
            Due.is(method + " has a row", true, readme.contains("| `" + method + "("));
        }
        Due.is("how to run the tests", true, readme.contains(".ci/run"));
        Due.end();
    }

    private static Set<String> methods() {
        Set<String> names = new TreeSet<>();
        for (Method method : Rescuemarket.class.getMethods()) {
            if (method.getDeclaringClass() == Rescuemarket.class) {
                names.add(method.getName());
            }
        }
        return names;
    }

    private static Object answer(Rescuemarket market, String name, String[] args) throws ReflectiveOperationException {
        Class<?>[] types = new Class<?>[args.length];
        Object[] values = new Object[args.length];
        for (int i = 0; i < args.length; i++) {
            types[i] = int.class;
            values[i] = Integer.valueOf(args[i]);
        }
        return Rescuemarket.class.getMethod(name, types).invoke(market, values);
    }
}
