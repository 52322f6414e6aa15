import java.lang.reflect.Method;
import java.nio.file.Files;
import java.nio.file.Path;
import java.util.HashMap;
import java.util.Map;
import java.util.regex.Matcher;
import java.util.regex.Pattern;

/** Makes the calls of the example in README.md; each must answer what is told behind it. */
public final class ReadmeTests {
    private static final Pattern BLOCK = Pattern.compile("(?s)```java\\n(.*?)```");
    private static final Pattern MADE = Pattern.compile("BondedWires wires = new BondedWires\\(\\);.*");
    private static final Pattern WRITTEN = Pattern.compile("for \\(char letter : \"(.*)\"\\.toCharArray\\(\\)\\) wires\\.write\\(letter\\);");
    private static final Pattern CALL = Pattern.compile("wires\\.(\\w+)\\(([-\\d, ]*)\\); +// (-?\\d+): .*");

    private final Check check = new Check();
    private final Map<String, Method> methods = new HashMap<>();
    private BondedWires wires;
    private int calls;

    private void runLine(String line) throws Exception {
        Matcher written = WRITTEN.matcher(line);
        Matcher call = CALL.matcher(line);
        if (MADE.matcher(line).matches()) {
            wires = new BondedWires();
        } else if (written.matches()) {
            for (char letter : written.group(1).toCharArray()) wires.write(letter);
        } else if (call.matches()) {
            calls++;
            check.due("README: " + line, answer(call.group(1), call.group(2)), Integer.parseInt(call.group(3)));
        } else {
            check.holds("README: a line that can be run: " + line, false);
        }
    }

    private int answer(String name, String arguments) throws Exception {
        String[] parts = arguments.isEmpty() ? new String[0] : arguments.split(", ");
        Object[] numbers = new Object[parts.length];
        for (int p = 0; p < parts.length; p++) numbers[p] = Integer.parseInt(parts[p]);
        return (int) methods.get(name).invoke(wires, numbers);
    }

    private void run() throws Exception {
        for (Method m : BondedWires.class.getMethods()) methods.put(m.getName(), m);
        String readme = Files.readString(Path.of("README.md"));
        Matcher block = BLOCK.matcher(readme);
        check.holds("README.md has an example", block.find());
        for (String line : block.group(1).split("\\n")) runLine(line);
        check.holds("the example makes calls", calls > 10);
        for (Method m : BondedWires.class.getDeclaredMethods()) {
            boolean isPublic = java.lang.reflect.Modifier.isPublic(m.getModifiers());
            check.holds("README.md tells of " + m.getName(), !isPublic || readme.contains("`" + m.getName() + "`"));
        }
        check.end();
    }

    public static void main(String[] args) throws Exception {
        new ReadmeTests().run();
    }
}
