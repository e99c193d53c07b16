import java.lang.reflect.InvocationTargetException;
import java.lang.reflect.Method;
import java.lang.reflect.Modifier;
import java.nio.file.Files;
import java.nio.file.Path;
import java.util.ArrayList;
import java.util.List;
import java.util.Map;
import java.util.Set;
import java.util.TreeMap;
import java.util.TreeSet;
import java.util.regex.Matcher;
import java.util.regex.Pattern;

/** Makes the calls that README.md shows, in their order, and compares what it says of their answers. */
public final class ReadmeTest {
    private static final Path PAGE = Path.of("README.md");
    private static final Path THIS = Path.of("src/test/java/ReadmeTest.java");
    private static final Pattern NEW = Pattern.compile("BridgesAreLent x = new BridgesAreLent\\(\\);");
    private static final Pattern TEXT = Pattern.compile("write\\(x, \"([^\"]*)\"\\);");
    private static final Pattern CALL = Pattern.compile(
            "x\\.(\\w+)\\(([^)]*)\\); +// (true|false|-?\\d+|throws \\w+)(, row((?: -?\\d+)*))?(: .*)?");

    private final Map<String, Method> face = new TreeMap<>();
    private final Set<String> shown = new TreeSet<>();
    private BridgesAreLent x = new BridgesAreLent();

    private ReadmeTest() {
        for (Method method : BridgesAreLent.class.getDeclaredMethods()) {
            if (Modifier.isPublic(method.getModifiers())) {
                face.put(method.getName(), method);
            }
        }
    }

    public static void main(String[] args) throws Exception {
        ReadmeTest test = new ReadmeTest();
        for (List<String> block : blocks(Files.readAllLines(PAGE))) {
            if (block.get(0).startsWith("static ")) {
                sameAsHere(block);
            } else {
                for (String line : block) {
                    test.line(line);
                }
            }
        }
        Check.due("README.md shows each call of the face", test.shown.toString(), test.face.keySet().toString());
        Check.finish();
    }

    private static List<List<String>> blocks(List<String> lines) {
        List<List<String>> blocks = new ArrayList<>();
        List<String> block = null;
        for (String line : lines) {
            if (line.equals("```java")) {
                block = new ArrayList<>();
                blocks.add(block);
            } else if (line.startsWith("```")) {
                block = null;
            } else if (block != null) {
                block.add(line);
            }
        }
        return blocks;
    }

    /** The method that the page gives to its readers is the one by which its texts are written here. */
    private static void sameAsHere(List<String> method) throws Exception {
        StringBuilder inside = new StringBuilder();
        for (String line : method) {
            inside.append("    ").append(line).append('\n');
        }
        Check.due("README.md: " + method.get(0), Files.readString(THIS).contains(inside), true);
    }

    static void write(BridgesAreLent x, String text) {
        x.end(0);
        for (int i = 0; i < text.length(); i += 4) {
            int four = 0;
            for (int j = i; j < i + 4; j++) {
                four = four << 8 | (j < text.length() ? text.charAt(j) : 0);
            }
            x.sign(four);
        }
        x.end(text.length());
    }

    private void line(String line) throws Exception {
        Matcher text = TEXT.matcher(line);
        Matcher call = CALL.matcher(line);
        if (NEW.matcher(line).matches()) {
            x = new BridgesAreLent();
        } else if (text.matches()) {
            write(x, text.group(1));
        } else if (call.matches() && face.containsKey(call.group(1))) {
            shown.add(call.group(1));
            Check.due("README.md: " + line, answer(face.get(call.group(1)), numbers(call.group(2))), call.group(3));
            if (call.group(4) != null) {
                Check.due("README.md: " + line, row(), call.group(5));
            }
        } else {
            Check.fail("README.md: a line that can't be tried: " + line);
        }
    }

    private static Object[] numbers(String told) {
        List<Object> numbers = new ArrayList<>();
        for (String number : told.isEmpty() ? new String[0] : told.split(", ")) {
            numbers.add(number.startsWith("0b") ? Integer.valueOf(number.substring(2), 2) : Integer.decode(number));
        }
        return numbers.toArray();
    }

    private String answer(Method method, Object[] numbers) throws Exception {
        try {
            return String.valueOf(method.invoke(x, numbers));
        } catch (InvocationTargetException e) {
            return "throws " + e.getCause().getClass().getSimpleName();
        }
    }

    private String row() {
        StringBuilder numbers = new StringBuilder();
        int size = x.count(11);
        for (int i = 0; i < size; i++) {
            numbers.append(' ').append(x.row(i));
        }
        return numbers.toString();
    }
}
