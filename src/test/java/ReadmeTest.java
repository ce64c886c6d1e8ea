import java.io.IOException;
import java.lang.reflect.Method;
import java.lang.reflect.Modifier;
import java.nio.file.Files;
import java.nio.file.Path;
import java.util.Set;
import java.util.TreeSet;
import java.util.regex.Matcher;
import java.util.regex.Pattern;

/** The calls that README.md shows, made in its order on one object with its text, answer what it says. */
public final class ReadmeTest {
    private static final Pattern TEXT = Pattern.compile("```text\n(.*?)```", Pattern.DOTALL);
    private static final Pattern CALL =
            Pattern.compile("^(?:feedText\\(house, text\\);|house\\.(\\w+)\\((.*)\\); +// (-?\\d+)(?::.*)?)$", Pattern.MULTILINE);

    private static final Set<String> CALLED = new TreeSet<>();

    public static void main(String[] args) throws IOException, ReflectiveOperationException {
        String readme = Files.readString(Path.of("README.md"));
        Matcher found = TEXT.matcher(readme);
        String text = found.find() ? found.group(1) : "";
        BoundHouse house = new BoundHouse();
        Matcher calls = CALL.matcher(readme);
        while (calls.find()) {
            if (calls.group(1) == null) {
                feedText(house, text);
            } else {
                make(house, calls.group(1), calls.group(2).replace("text.length()", "" + text.length()), calls.group(3));
            }
        }
        allAreShown(readme);
        feedTextIsShown(readme);
        Kit.end();
    }

    static int feedText(BoundHouse house, String text) {
        int[] five = new int[5];
        int answer = 0;
        for (int i = 0; i < text.length(); i += 20) {
            for (int k = 0; k < 20; k++) {
                int sign = i + k < text.length() ? text.charAt(i + k) : 0;
                five[k / 4] = five[k / 4] << 8 | sign;
            }
            answer = house.feed(five[0], five[1], five[2], five[3], five[4]);
        }
        return answer;
    }

    /** What README.md shows is what is used here, sign by sign. */
    private static void feedTextIsShown(String readme) throws IOException {
        int from = readme.indexOf("static int feedText");
        int to = readme.indexOf("```", Math.max(from, 0));
        String shown = from < 0 ? "" : readme.substring(from, to).indent(4);
        if (shown.isEmpty() || !Files.readString(Path.of("src/test/java/ReadmeTest.java")).contains(shown)) {
            Kit.note("README.md shows another feedText than ReadmeTest has");
        }
    }

    private static void make(BoundHouse house, String name, String list, String due) throws ReflectiveOperationException {
        CALLED.add(name);
        for (Method method : BoundHouse.class.getMethods()) {
            if (method.getName().equals(name)) {
                Number answer = (Number) method.invoke(house, arguments(method, list));
                Kit.due("README.md: " + name + "(" + list + ")", answer.longValue(), Long.parseLong(due));
            }
        }
    }

    private static Object[] arguments(Method method, String list) {
        String[] words = list.isEmpty() ? new String[0] : list.split(", ");
        Object[] arguments = new Object[words.length];
        for (int i = 0; i < words.length; i++) {
            boolean isLong = method.getParameterTypes()[i] == long.class;
            arguments[i] = isLong ? (Object) Long.valueOf(words[i]) : (Object) Integer.valueOf(words[i]);
        }
        return arguments;
    }

    /** A call that is not shown, or is shown in a form that is not found above, would go untested. */
    private static void allAreShown(String readme) {
        for (Method method : BoundHouse.class.getDeclaredMethods()) {
            boolean isPublic = Modifier.isPublic(method.getModifiers());
            if (isPublic && !method.getName().equals("feed") && !CALLED.contains(method.getName())) {
                Kit.note("README.md shows no call of " + method.getName());
            }
        }
        Kit.due("calls that README.md shows", CALL.matcher(readme).results().count(),
                readme.lines().filter(line -> line.startsWith("house.") || line.startsWith("feedText(")).count());
    }
}
