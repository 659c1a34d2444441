import java.lang.reflect.Constructor;
import java.lang.reflect.Field;
import java.lang.reflect.Method;
import java.lang.reflect.Modifier;
import java.nio.file.Files;
import java.nio.file.Path;
import java.util.Arrays;
import java.util.Set;
import java.util.TreeSet;
import java.util.regex.Matcher;
import java.util.regex.Pattern;

/** The public face is the document's and no more, and the source keeps to the rules that a look can tell. */
public final class FourthCornerFace {
    private static final String[] CALLS = {
        "int write(int)", "int wipe()", "int fault()", "int bed()", "int corner(int,int)", "int edge(int,int)",
        "int would(int,int)", "int set(int,int)", "int bend(int,int)", "int wash()", "int turn()", "int undo()",
        "int judge(int,int)", "int rows(int)", "int rowOf(int)", "int deepest()", "int fewest(int)",
        "int fewestAt(int,int)", "int byTwo(int)", "int orders(int,int)", "int creases(int)", "int bending(int)",
        "int washes(int)", "int likely(int,boolean)", "int tries(boolean)", "int drum(int,int,int)",
        "int cross(int,int)", "int drawer(int,int,boolean)", "long seed(long)", "int ward(int)", "int keep(int)",
        "int again(int)", "int count(int)"};
    private static final String[] CONSTANTS = {"UNKNOWN", "OUTSIDE", "STATE", "FULL", "NONE"};

    private static int wrong = 0;

    private static void check(boolean fine, String what) {
        if (!fine) {
            wrong++;
            System.out.println(what);
        }
    }

    public static void main(String[] args) throws Exception {
        checkMembers();
        checkClassesInside();
        checkSource();
        System.out.println(wrong == 0 ? "the face is as due" : wrong + " things are not as due");
        if (wrong != 0) {
            System.exit(1);
        }
    }

    private static void checkMembers() {
        int kind = FourthCorner.class.getModifiers();
        check(Modifier.isPublic(kind) && Modifier.isFinal(kind), "the class is not public and final");
        Set<String> calls = new TreeSet<>();
        for (Method method : FourthCorner.class.getDeclaredMethods()) {
            if (!Modifier.isPrivate(method.getModifiers())) {
                check(Modifier.isPublic(method.getModifiers()), "not private, not public: " + method);
                calls.add(told(method));
            }
        }
        check(calls.equals(new TreeSet<>(Arrays.asList(CALLS))), "the calls are " + calls);
        Set<String> constants = new TreeSet<>();
        for (Field field : FourthCorner.class.getDeclaredFields()) {
            int how = field.getModifiers();
            check(!Modifier.isStatic(how) || Modifier.isFinal(how), "a static field is not final: " + field);
            if (!Modifier.isPrivate(how)) {
                check(Modifier.isPublic(how) && Modifier.isStatic(how) && field.getType() == int.class,
                    "no constant: " + field);
                constants.add(field.getName());
            }
        }
        check(constants.equals(new TreeSet<>(Arrays.asList(CONSTANTS))), "the constants are " + constants);
        Constructor<?>[] makers = FourthCorner.class.getDeclaredConstructors();
        check(makers.length == 1 && makers[0].getParameterCount() == 0
            && Modifier.isPublic(makers[0].getModifiers()), "the constructor is another one");
    }

    private static String told(Method method) {
        StringBuilder told = new StringBuilder(method.getReturnType().getName());
        told.append(' ').append(method.getName()).append('(');
        String comma = "";
        for (Class<?> type : method.getParameterTypes()) {
            told.append(comma).append(type.getName());
            comma = ",";
        }
        return told.append(')').toString();
    }

    private static void checkClassesInside() {
        Class<?>[] inside = FourthCorner.class.getDeclaredClasses();
        check(inside.length <= 11, "too many classes: " + inside.length);
        Set<String> names = new TreeSet<>();
        for (String call : CALLS) {
            names.add(call.substring(call.indexOf(' ') + 1, call.indexOf('(')));
        }
        for (Class<?> part : inside) {
            int kind = part.getModifiers();
            check(Modifier.isStatic(kind) && !Modifier.isPublic(kind) && !Modifier.isProtected(kind),
                "not static, or to be seen: " + part);
            for (Method method : part.getDeclaredMethods()) {
                check(!names.contains(method.getName()), "bears a public name: " + method);
                check(method.getParameterCount() <= 7, "too many parameters: " + method);
            }
        }
        for (Method method : FourthCorner.class.getDeclaredMethods()) {
            check(!Modifier.isPrivate(method.getModifiers()) || !names.contains(method.getName()),
                "bears a public name: " + method);
        }
    }

    private static void checkSource() throws Exception {
        String source = Files.readString(Path.of("src/main/java/FourthCorner.java"));
        for (int i = 0; i < source.length(); i++) {
            check(source.charAt(i) < 128, "a sign beyond 127 at " + i);
        }
        String code = source.replaceAll("(?s)/\\*.*?\\*/", "").replaceAll("//[^\n]*", "");
        Matcher imports = Pattern.compile("import ([^;]*);").matcher(code);
        while (imports.find()) {
            check(Set.of("java.util.Arrays", "java.util.ArrayList", "java.util.List", "java.util.Iterator")
                .contains(imports.group(1)), "an import: " + imports.group());
        }
        Matcher words = Pattern.compile("\\b(throw|throws|try|catch|finally|synchronized|assert|package|protected"
            + "|native|volatile|Exception|Thread|System\\.(?!arraycopy)\\w+|Random|\\w+Exact|String\\.\\w+)\\b"
            + "|->|::").matcher(code);
        while (words.find()) {
            check(false, "a word that is ruled out: " + words.group());
        }
        check(!Pattern.compile("static\\s*\\{").matcher(code).find(), "a static initialiser block");
        checkLibrary(code);
    }

    /** Rule 4: "the static functions of Integer, Long and Math over int and long", so no constants of theirs. */
    private static void checkLibrary(String code) {
        Matcher uses = Pattern.compile("\\b(Integer|Long|Math|Arrays|System|Character|Boolean|Short|Byte)\\s*\\."
            + "\\s*(\\w+)\\s*(\\(?)").matcher(code.replaceAll("import [^;]*;", ""));
        while (uses.find()) {
            boolean call = !uses.group(3).isEmpty();
            boolean listed = switch (uses.group(1)) {
                case "Integer", "Long", "Math" -> !uses.group(2).endsWith("Exact");
                case "Arrays" -> Set.of("copyOf", "copyOfRange", "fill").contains(uses.group(2));
                case "System" -> uses.group(2).equals("arraycopy");
                default -> false;
            };
            check(call && listed, "rule 4, not in the library's list: " + uses.group());
        }
    }
}
