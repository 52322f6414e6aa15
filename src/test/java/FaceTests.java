import java.lang.reflect.Constructor;
import java.lang.reflect.Field;
import java.lang.reflect.Method;
import java.lang.reflect.Modifier;
import java.nio.file.Files;
import java.nio.file.Path;
import java.util.Arrays;
import java.util.Set;
import java.util.TreeSet;
import java.util.regex.Matcher;
import java.util.regex.Pattern;

/** The public face of the document, and those rules of LANGUAGE.md that can be read off the code. */
public final class FaceTests {
    private static final String[] METHODS = {
        "write/1", "wipe/0", "fault/0", "lay/0", "set/3", "limit/2", "shift/1", "undo/0", "wire/2", "place/2",
        "height/2", "pair/3", "bond/1", "take/1", "ready/0", "order/1", "orders/0", "stuck/0", "loop/1", "mend/1",
        "sees/3", "eye/5", "forget/0", "explains/1", "count/1"};
    private static final Set<String> CONSTANTS = Set.of("BAD", "NO", "FULL", "NONE", "ZERO");
    private static final Pattern FORBIDDEN = Pattern.compile(
            "\\b(import|package|throw|throws|try|catch|synchronized|assert|\\w+Exact|Random|Thread|System\\.(?!arraycopy))\\b"
            + "|->|::");

    private static void checkMethods(Check check) {
        Set<String> due = new TreeSet<>(Arrays.asList(METHODS));
        Set<String> found = new TreeSet<>();
        Set<String> hidden = new TreeSet<>();
        for (Method m : BondedWires.class.getDeclaredMethods()) {
            if (Modifier.isPrivate(m.getModifiers())) {
                hidden.add(m.getName());
                continue;
            }
            found.add(m.getName() + "/" + m.getParameterCount());
            check.holds(m + " is public and not static",
                    Modifier.isPublic(m.getModifiers()) && !Modifier.isStatic(m.getModifiers()));
            check.holds(m + " answers an int and takes ints", m.getReturnType() == int.class
                    && Arrays.stream(m.getParameterTypes()).allMatch(t -> t == int.class));
        }
        check.holds("the methods are those of the document, not " + found, found.equals(due));
        for (String name : METHODS) {
            String bare = name.substring(0, name.indexOf('/'));
            check.holds("no private method is named " + bare, !hidden.contains(bare));
        }
    }

    private static void checkConstants(Check check) throws Exception {
        Set<String> found = new TreeSet<>();
        for (Field f : BondedWires.class.getDeclaredFields()) {
            if (Modifier.isPrivate(f.getModifiers())) continue;
            found.add(f.getName());
            check.holds(f.getName() + " is a public constant of int", f.getType() == int.class
                    && f.getModifiers() == (Modifier.PUBLIC | Modifier.STATIC | Modifier.FINAL));
        }
        check.holds("the constants are those of the document, not " + found, found.equals(CONSTANTS));
        check.due("BAD", BondedWires.BAD, -1);
        check.due("NO", BondedWires.NO, -2);
        check.due("FULL", BondedWires.FULL, -3);
        check.due("NONE", BondedWires.NONE, -4);
        check.due("ZERO", BondedWires.ZERO, 100000);
    }

    private static void checkClasses(Check check) {
        check.holds("the class is public and final",
                BondedWires.class.getModifiers() == (Modifier.PUBLIC | Modifier.FINAL));
        Constructor<?>[] makers = BondedWires.class.getDeclaredConstructors();
        check.holds("it has one constructor, public, without arguments", makers.length == 1
                && Modifier.isPublic(makers[0].getModifiers()) && makers[0].getParameterCount() == 0);
        Class<?>[] inside = BondedWires.class.getDeclaredClasses();
        check.holds("it has some twelve classes at most", inside.length <= 12);
        for (Class<?> c : inside) {
            check.holds(c + " is static and not public", Modifier.isStatic(c.getModifiers())
                    && !Modifier.isPublic(c.getModifiers()) && !Modifier.isProtected(c.getModifiers()));
            checkSizes(check, c);
        }
        checkSizes(check, BondedWires.class);
    }

    private static void checkSizes(Check check, Class<?> c) {
        int fields = 0;
        for (Field f : c.getDeclaredFields()) {
            if (Modifier.isStatic(f.getModifiers())) {
                check.holds(f + " is final, as it is static", Modifier.isFinal(f.getModifiers()));
            } else {
                fields++;
            }
        }
        check.holds(c + " has some twenty fields at most", fields <= 20);
        for (Method m : c.getDeclaredMethods()) {
            check.holds(m + " takes seven parameters at most", m.getParameterCount() <= 7);
        }
    }

    private static void checkWords(Check check) throws Exception {
        String code = Files.readString(Path.of("src/main/java/BondedWires.java"));
        check.holds("its signs are 1 to 127", code.chars().allMatch(c -> c >= 1 && c <= 127));
        String bare = code.replaceAll("(?s)/\\*.*?\\*/", "").replaceAll("//[^\\n]*", "").replaceAll("\"[^\"]*\"", "\"\"");
        Matcher m = FORBIDDEN.matcher(bare);
        boolean none = !m.find();
        check.holds("it has no " + (none ? "forbidden word" : m.group()), none);
    }

    public static void main(String[] args) throws Exception {
        Check check = new Check();
        checkMethods(check);
        checkConstants(check);
        checkClasses(check);
        checkWords(check);
        check.end();
    }
}
