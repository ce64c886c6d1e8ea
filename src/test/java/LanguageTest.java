import java.io.IOException;
import java.lang.reflect.Constructor;
import java.lang.reflect.Field;
import java.lang.reflect.Method;
import java.lang.reflect.Modifier;
import java.nio.file.Files;
import java.nio.file.Path;
import java.util.ArrayList;
import java.util.List;
import java.util.Set;
import java.util.TreeSet;
import java.util.regex.Matcher;
import java.util.regex.Pattern;

/** The rules of LANGUAGE.md that can be seen in the program's text or in its classes. */
public final class LanguageTest {
    private static final Path SOURCE = Path.of("src/main/java/BoundHouse.java");
    private static final Set<String> FACE = Set.of("int feed(int,int,int,int,int)", "int judge(int)", "int fault(int)", "int give(long)",
            "int run(int,int,int,int)", "int about(int)", "long result()", "long cell(int,int)", "long bound(int,int,int,int,int)",
            "int count(int)", "int shown(int,int)", "int term(int,int,int)", "int overs()");
    private static final Set<String> LIBRARY = Set.of("import java.util.ArrayList;", "import java.util.Arrays;", "import java.util.List;",
            "import java.util.Iterator;");

    public static void main(String[] args) throws IOException {
        String code = withoutCommentsAndTexts(Files.readString(SOURCE));
        face();
        classes();
        fields();
        words(code);
        imports(code);
        lengths(code);
        Kit.end();
    }

    private static void hold(int rule, String what, boolean holds) {
        if (!holds) {
            Kit.note("rule " + rule + ": " + what);
        }
    }

    /** Line breaks stay, so that lines can be counted. */
    private static String withoutCommentsAndTexts(String source) {
        Matcher matcher = Pattern.compile("//[^\n]*|/\\*.*?\\*/|\"(\\\\.|[^\"\\\\])*\"|'(\\\\.|[^'\\\\])'", Pattern.DOTALL).matcher(source);
        return matcher.replaceAll(found -> "\n".repeat((int) found.group().chars().filter(c -> c == '\n').count()));
    }

    private static String signature(Method method) {
        List<String> params = new ArrayList<>();
        for (Class<?> param : method.getParameterTypes()) {
            params.add(param.getSimpleName());
        }
        return method.getReturnType().getSimpleName() + " " + method.getName() + "(" + String.join(",", params) + ")";
    }

    private static void face() {
        Class<BoundHouse> house = BoundHouse.class;
        hold(1, "the class is public and final", Modifier.isPublic(house.getModifiers()) && Modifier.isFinal(house.getModifiers()));
        Set<String> found = new TreeSet<>();
        for (Method method : house.getDeclaredMethods()) {
            if (Modifier.isPublic(method.getModifiers())) {
                found.add(signature(method));
            } else {
                hold(1, method + " is private", Modifier.isPrivate(method.getModifiers()) || method.isSynthetic());
            }
        }
        hold(1, "the face is " + found, found.equals(FACE));
        Constructor<?>[] constructors = house.getDeclaredConstructors();
        hold(1, "one public constructor without params", constructors.length == 1 && constructors[0].getParameterCount() == 0
                && Modifier.isPublic(constructors[0].getModifiers()));
        for (Field field : house.getDeclaredFields()) {
            boolean none = field.getName().equals("NONE");
            hold(1, field + " is private", none ? Modifier.isPublic(field.getModifiers()) : Modifier.isPrivate(field.getModifiers()));
        }
        Kit.due("NONE", BoundHouse.NONE, -1);
    }

    private static List<Class<?>> all() {
        List<Class<?>> all = new ArrayList<>(List.of(BoundHouse.class.getDeclaredClasses()));
        all.add(BoundHouse.class);
        return all;
    }

    private static void classes() {
        Set<String> names = new TreeSet<>();
        for (String signature : FACE) {
            names.add(signature.substring(signature.indexOf(' ') + 1, signature.indexOf('(')));
        }
        for (Class<?> one : all()) {
            boolean house = one == BoundHouse.class;
            hold(2, one + " is static, and not public", house || Modifier.isStatic(one.getModifiers())
                    && !Modifier.isPublic(one.getModifiers()) && !Modifier.isProtected(one.getModifiers()));
            for (Method method : one.getDeclaredMethods()) {
                hold(1, method + " bears the name of a public one", house && Modifier.isPublic(method.getModifiers())
                        || !names.contains(method.getName()));
                hold(11, method + " takes at most seven parameters", method.getParameterCount() <= 7);
            }
            for (Constructor<?> constructor : one.getDeclaredConstructors()) {
                hold(11, constructor + " takes at most seven parameters", constructor.getParameterCount() <= 7);
            }
        }
        hold(11, "some twelve classes", all().size() <= 13);
    }

    private static void fields() {
        for (Class<?> one : all()) {
            int own = 0;
            for (Field field : one.getDeclaredFields()) {
                if (Modifier.isStatic(field.getModifiers())) {
                    hold(5, field + " is final", Modifier.isFinal(field.getModifiers()));
                    hold(5, field + " is a constant", Set.of("int", "long", "boolean", "char", "String", "int[]", "long[]", "char[]", "byte[]")
                            .contains(field.getType().getSimpleName()));
                } else {
                    own++;
                }
            }
            hold(11, one + " has some twenty fields: " + own, own <= 21);
        }
    }

    private static void words(String code) {
        String[] wrong = {"throw", "throws", "try", "catch", "finally", "synchronized", "assert", "native", "volatile", "transient",
            "strictfp", "yield", "var", "package", "extends", "hashCode", "toString", "currentTimeMillis", "nanoTime", "Random", "Thread",
            "Object", "Exception", "Error", "Long\\.parse\\w*", "Integer\\.parse\\w*", "\\w*Exact"};
        for (String word : wrong) {
            hold(6, "the word " + word + " stands in it", !Pattern.compile("\\b" + word + "\\b").matcher(code).find());
        }
        hold(2, "no lambda, no method reference", !code.contains("->") && !code.contains("::"));
        Matcher system = Pattern.compile("\\bSystem\\.(\\w+)").matcher(code);
        while (system.find()) {
            hold(4, "System." + system.group(1), system.group(1).equals("arraycopy"));
        }
        Matcher arrays = Pattern.compile("\\bArrays\\.(\\w+)").matcher(code);
        while (arrays.find()) {
            hold(4, "Arrays." + arrays.group(1), Set.of("copyOf", "copyOfRange", "fill").contains(arrays.group(1)));
        }
        hold(5, "no static initialiser block", !Pattern.compile("static\\s*\\{").matcher(code).find());
    }

    private static void imports(String code) {
        for (String line : code.split("\n")) {
            hold(4, line, !line.startsWith("import") || LIBRARY.contains(line));
        }
    }

    /** A method begins eight blanks in (four, in the house itself) and ends with a brace at the same place. */
    private static void lengths(String code) {
        String[] lines = code.split("\n", -1);
        for (int from = 0; from < lines.length; from++) {
            Matcher head = Pattern.compile("( {4}| {8})\\S.*\\) \\{").matcher(lines[from]);
            if (head.matches()) {
                int to = from;
                while (to < lines.length && !lines[to].equals(head.group(1) + "}")) {
                    to++;
                }
                hold(11, lines[from].trim() + " is " + (to - from + 1) + " lines long", to - from < 60);
            }
        }
    }
}
