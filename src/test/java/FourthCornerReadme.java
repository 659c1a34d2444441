import java.lang.reflect.Field;
import java.lang.reflect.Method;
import java.lang.reflect.Modifier;
import java.nio.charset.StandardCharsets;
import java.nio.file.Files;
import java.nio.file.Path;
import java.util.Set;
import java.util.TreeSet;
import java.util.regex.Matcher;
import java.util.regex.Pattern;

/**
 * Makes the calls that README.md shows, one behind the other, and compares their answers with those that it tells.
 * A line that is not understood is told too, so that none goes unlooked at; and every public call must be shown.
 */
public final class FourthCornerReadme {
    private static final Pattern BLOCK = Pattern.compile("(?s)```java\n(.*?)```");
    private static final Pattern LOOP = Pattern.compile(
        "for \\(char letter : \"([^\"]*)\"\\.toCharArray\\(\\)\\) \\{\\s*x\\.write\\(letter\\);\\s*\\}");
    private static final Pattern CALL = Pattern.compile("x\\.(\\w+)\\(([^()]*)\\);\\s*// (-?\\d+)(?::.*)?");
    private static final Pattern REFUSAL = Pattern.compile("`([A-Z]+)`\\s+\\((-\\d)");

    private static final Set<String> shown = new TreeSet<>();
    private static FourthCorner x = null;
    private static int wrong = 0;
    private static int made = 0;

    private static void check(boolean fine, String what) {
        if (!fine) {
            wrong++;
            System.out.println("README.md: " + what);
        }
    }

    /** The loop that writes a text is told as one line for each letter. */
    private static String unrolled(String block) {
        Matcher loop = LOOP.matcher(block);
        StringBuilder lines = new StringBuilder();
        while (loop.find()) {
            StringBuilder writes = new StringBuilder();
            for (int i = 0; i < loop.group(1).length(); i++) {
                int letter = loop.group(1).charAt(i);
                writes.append("x.write(" + letter + "); // " + (i + 1) + "\n");
            }
            loop.appendReplacement(lines, writes.toString());
        }
        return loop.appendTail(lines).toString();
    }

    private static void line(String line) throws Exception {
        if (line.equals("FourthCorner x = new FourthCorner();")) {
            x = new FourthCorner();
            return;
        }
        Matcher call = CALL.matcher(line);
        if (x == null || !call.matches()) {
            check(line.isEmpty(), "not understood: " + line);
            return;
        }
        String[] told = call.group(2).isEmpty() ? new String[0] : call.group(2).split(",\\s*");
        for (Method method : FourthCorner.class.getMethods()) {
            if (method.getName().equals(call.group(1)) && method.getParameterCount() == told.length
                && method.getDeclaringClass() == FourthCorner.class) {
                long answer = ((Number) method.invoke(x, read(told, method.getParameterTypes()))).longValue();
                check(answer == Long.parseLong(call.group(3)), line + " but the answer is " + answer);
                shown.add(method.getName());
                made++;
                return;
            }
        }
        check(false, "no such call: " + line);
    }

    private static Object[] read(String[] told, Class<?>[] types) {
        Object[] numbers = new Object[told.length];
        for (int i = 0; i < told.length; i++) {
            if (types[i] == boolean.class) {
                check(told[i].equals("true") || told[i].equals("false"), "neither true nor false: " + told[i]);
                numbers[i] = told[i].equals("true");
            } else if (types[i] == long.class) {
                numbers[i] = Long.parseLong(told[i]);
            } else {
                numbers[i] = Integer.parseInt(told[i]);
            }
        }
        return numbers;
    }

    private static void checkConstants(String readme) throws Exception {
        Set<String> named = new TreeSet<>();
        Matcher refusal = REFUSAL.matcher(readme);
        while (refusal.find()) {
            Field constant = FourthCorner.class.getField(refusal.group(1));
            check(constant.getInt(null) == Integer.parseInt(refusal.group(2)), "not so: " + refusal.group());
            named.add(refusal.group(1));
        }
        for (Field field : FourthCorner.class.getFields()) {
            check(named.contains(field.getName()), "does not tell of " + field.getName());
        }
    }

    public static void main(String[] args) throws Exception {
        String readme = Files.readString(Path.of("README.md"), StandardCharsets.UTF_8);
        Matcher block = BLOCK.matcher(readme);
        while (block.find()) {
            for (String line : unrolled(block.group(1)).split("\n")) {
                line(line.trim());
            }
        }
        for (Method method : FourthCorner.class.getDeclaredMethods()) {
            check(!Modifier.isPublic(method.getModifiers()) || shown.contains(method.getName()),
                "does not show " + method.getName());
        }
        checkConstants(readme);
        check(made <= 512, "more than 512 calls on one object");
        if (wrong != 0) {
            System.out.println(wrong + " things are not as due");
            System.exit(1);
        }
        System.out.println("all " + made + " calls of README.md are as due");
    }
}
