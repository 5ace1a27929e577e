import java.io.IOException;
import java.lang.reflect.Method;
import java.nio.file.DirectoryStream;
import java.nio.file.Files;
import java.nio.file.Path;
import java.util.List;
import java.util.Set;
import java.util.TreeSet;
import java.util.regex.Matcher;
import java.util.regex.Pattern;

/** What README.md says is so: its examples and its tables are asked of the class, and it names every call and test. */
public final class ReadmeTest {
    private static final Path README = Path.of("README.md");
    private static final Path TESTS = Path.of("src/test/java");
    /** A call of an example and, behind it, the answer; what follows that is for the reader. */
    private static final Pattern EXAMPLE = Pattern.compile("x\\.(\\w+)\\(([^)]*)\\)\\)?;\\s+// ('.'|\\w+).*");
    private static final Pattern TYPE = Pattern.compile("\\| (\\d+) \\| `([^`]+)` \\| .*");
    private static final Pattern CONSTANT = Pattern.compile("\\| `([A-Z_]+)` \\| (-\\d) \\| .*");
    private static final Pattern CALL = Pattern.compile("\\| `(\\w+)\\([^`]*\\)` \\| .*");
    private static final Pattern TEST = Pattern.compile("\\| `(\\w+Test)` \\| .*");

    private static final Due DUE = new Due();

    public static void main(String[] args) throws IOException, ReflectiveOperationException {
        List<String> lines = Files.readAllLines(README);
        examples(lines);
        types(lines);
        texts(lines);
        constants(lines);
        calls(lines);
        tests(lines);
        DUE.end();
    }

    private static void examples(List<String> lines) throws ReflectiveOperationException {
        DUE.sentence("the examples");
        Set<String> shown = new TreeSet<>();
        ClassProbe x = null;
        for (String line : lines) {
            x = line.contains("new ClassProbe()") ? new ClassProbe() : x;
            Matcher example = EXAMPLE.matcher(line);
            if (example.find()) {
                Method call = method(example.group(1));
                Object got = call.invoke(x, arguments(call, example.group(2)));
                DUE.is(example.group(), String.valueOf(got), dueAnswer(example.group(3)));
                shown.add(call.getName());
            }
        }
        DUE.is("calls with an example", shown.toString(), allCalls().toString());
    }

    private static Object[] arguments(Method call, String written) {
        String[] words = written.isEmpty() ? new String[0] : written.split(", ");
        Object[] all = new Object[words.length];
        for (int i = 0; i < words.length; i++) {
            long value = valueOf(words[i]);
            if (call.getParameterTypes()[i] == long.class) {
                all[i] = value;
            } else {
                all[i] = (int) value;
            }
        }
        return all;
    }

    private static long valueOf(String word) {
        return word.startsWith("'") ? word.charAt(1) : Long.decode(word.replace("L", ""));
    }

    private static String dueAnswer(String word) throws ReflectiveOperationException {
        if (word.matches("[A-Z_]+")) {
            return String.valueOf(ClassProbe.class.getField(word).getInt(null));
        }
        return word.equals("true") || word.equals("false") ? word : String.valueOf(valueOf(word));
    }

    private static void types(List<String> lines) {
        DUE.sentence("the table of types");
        Set<Integer> told = new TreeSet<>();
        for (String line : section(lines, "### The types")) {
            Matcher type = TYPE.matcher(line);
            if (type.matches()) {
                int t = Integer.parseInt(type.group(1));
                DUE.is("the name of " + t, Texts.read(t, 0), type.group(2));
                told.add(t);
            }
        }
        DUE.is("how many types are told", told.size(), 25);
    }

    private static void texts(List<String> lines) {
        DUE.sentence("the table of texts");
        int told = 0;
        for (String line : section(lines, "### Its calls")) {
            String[] cells = line.split(" \\| ?");
            if (cells.length == 3 && cells[0].matches("\\| \\d")) {
                int which = cells[0].charAt(2) - '0';
                String text = Texts.read(59, which);
                DUE.is("text " + which + " of 59", text.isEmpty() ? "(empty)" : "`" + text + "`", cells[2]);
                told++;
            }
        }
        DUE.is("how many texts are told", told, 8);
    }

    private static void constants(List<String> lines) throws ReflectiveOperationException {
        DUE.sentence("the table of answers below 0");
        int told = 0;
        for (String line : section(lines, "### Answers below 0")) {
            Matcher constant = CONSTANT.matcher(line);
            if (constant.matches()) {
                int value = ClassProbe.class.getField(constant.group(1)).getInt(null);
                DUE.is(constant.group(1), value, Integer.parseInt(constant.group(2)));
                told++;
            }
        }
        DUE.is("how many constants are told", told, 6);
    }

    private static void calls(List<String> lines) {
        DUE.sentence("the tables of calls");
        DUE.is("calls", firstCells(section(lines, "### Its calls"), CALL).toString(), allCalls().toString());
    }

    private static void tests(List<String> lines) throws IOException {
        DUE.sentence("the tables of tests");
        Set<String> there = new TreeSet<>();
        try (DirectoryStream<Path> files = Files.newDirectoryStream(TESTS, "*Test.java")) {
            for (Path file : files) {
                there.add(file.getFileName().toString().replace(".java", ""));
            }
        }
        DUE.is("tests", firstCells(section(lines, "## How to run its tests"), TEST).toString(), there.toString());
    }

    private static Set<String> firstCells(List<String> lines, Pattern row) {
        Set<String> all = new TreeSet<>();
        for (String line : lines) {
            Matcher cell = row.matcher(line);
            if (cell.matches()) {
                all.add(cell.group(1));
            }
        }
        return all;
    }

    /** The lines from that heading to the next one. */
    private static List<String> section(List<String> lines, String heading) {
        int from = lines.indexOf(heading) + 1;
        int to = from;
        while (to < lines.size() && !lines.get(to).startsWith("#")) {
            to++;
        }
        return lines.subList(from, to);
    }

    private static Set<String> allCalls() {
        Set<String> all = new TreeSet<>();
        for (Method method : ClassProbe.class.getMethods()) {
            if (method.getDeclaringClass() == ClassProbe.class) {
                all.add(method.getName());
            }
        }
        return all;
    }

    private static Method method(String name) throws ReflectiveOperationException {
        for (Method method : ClassProbe.class.getMethods()) {
            if (method.getName().equals(name)) {
                return method;
            }
        }
        throw new NoSuchMethodException(name);
    }
}
