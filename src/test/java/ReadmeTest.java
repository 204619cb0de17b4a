import java.io.IOException;
import java.lang.reflect.Method;
import java.nio.file.Files;
import java.nio.file.Path;
import java.util.HashMap;
import java.util.Map;
import java.util.regex.Matcher;
import java.util.regex.Pattern;

/** Runs the examples of README.md: each line with a call must answer what the comment behind it begins with. */
public final class ReadmeTest {
    private static final Pattern BLOCK = Pattern.compile("```java\n(.*?)```", Pattern.DOTALL);
    private static final Pattern NEW = Pattern.compile("BreadLaw (\\w+) = new BreadLaw\\(\\);");
    private static final Pattern CALL =
        Pattern.compile("(?:int (\\w+) = )?(\\w+)\\.(\\w+)\\(([^)]*)\\); +// (-?\\d+)(:.*)?");

    private final Map<String, BreadLaw> objects = new HashMap<>();
    private final Map<String, Integer> numbers = new HashMap<>();

    public static void main(String[] args) throws IOException, ReflectiveOperationException {
        Matcher block = BLOCK.matcher(Files.readString(Path.of("README.md")));
        int blocks = 0;
        while (block.find()) {
            ReadmeTest example = new ReadmeTest();
            for (String line : block.group(1).split("\n")) {
                example.run(line);
            }
            blocks++;
        }
        Due.is("examples in README.md", blocks, 2);
        Due.end();
    }

    private void run(String line) throws ReflectiveOperationException {
        Matcher made = NEW.matcher(line);
        Matcher call = CALL.matcher(line);
        if (made.matches()) {
            objects.put(made.group(1), new BreadLaw());
            return;
        }
        Due.holds("a call with its answer: " + line, call.matches() && objects.containsKey(call.group(2)));
        if (call.matches() && objects.containsKey(call.group(2))) {
            int got = answer(objects.get(call.group(2)), call.group(3), call.group(4));
            Due.is(line, got, Integer.parseInt(call.group(5)));
            if (call.group(1) != null) {
                numbers.put(call.group(1), got);
            }
        }
    }

    private int answer(BreadLaw x, String name, String list) throws ReflectiveOperationException {
        String[] given = list.isEmpty() ? new String[0] : list.split(", ");
        Class<?>[] types = new Class<?>[given.length];
        Object[] values = new Object[given.length];
        for (int i = 0; i < given.length; i++) {
            types[i] = int.class;
            values[i] = product(given[i]);
        }
        Method method = BreadLaw.class.getMethod(name, types);
        return (int) method.invoke(x, values);
    }

    private int product(String written) {
        int product = 1;
        for (String factor : written.split(" \\* ")) {
            product *= numbers.containsKey(factor) ? numbers.get(factor) : Integer.parseInt(factor);
        }
        return product;
    }
}
