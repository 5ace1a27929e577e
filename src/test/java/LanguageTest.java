import java.io.DataInputStream;
import java.io.IOException;
import java.io.InputStream;
import java.lang.reflect.Field;
import java.lang.reflect.Method;
import java.lang.reflect.Modifier;
import java.nio.file.Files;
import java.nio.file.Path;
import java.util.ArrayList;
import java.util.Arrays;
import java.util.List;
import java.util.Set;
import java.util.TreeSet;
import java.util.stream.Stream;

/** Those rules of ../shared/LANGUAGE.md that can be read off the class, its class files and its source. */
public final class LanguageTest {
    private static final Path SOURCES = Path.of("src/main/java");
    /** Of the library that rule 4 leaves, what the class uses or may well come to use. */
    private static final Set<String> LIBRARY = new TreeSet<>(List.of(
        "java/lang/Object.<init>", "java/lang/String.length", "java/lang/String.charAt", "java/lang/String.isEmpty",
        "java/lang/String.equals", "java/lang/String.indexOf", "java/lang/String.substring",
        "java/lang/String.toCharArray", "java/lang/String.<init>", "java/lang/StringBuilder.<init>",
        "java/lang/StringBuilder.append", "java/lang/StringBuilder.charAt", "java/lang/StringBuilder.setCharAt",
        "java/lang/StringBuilder.setLength", "java/lang/StringBuilder.deleteCharAt", "java/lang/StringBuilder.reverse",
        "java/lang/StringBuilder.length", "java/lang/StringBuilder.toString"));
    private static final int MOST_LINES = 60;
    private static final int MOST_PARAMETERS = 7;
    private static final int MOST_CLASSES = 12;
    private static final int MOST_FIELDS = 20;

    private static final Due DUE = new Due();

    public static void main(String[] args) throws IOException {
        oneFile();
        classesInside();
        namesOfPrivateMethods();
        library();
        staticFields();
        wordsThatAreNotLeft();
        lengthOfMethods();
        sizes();
        DUE.end();
    }

    private static void oneFile() throws IOException {
        DUE.sentence("The program is one file, src/main/java/ClassProbe.java, without a package line");
        try (Stream<Path> files = Files.walk(SOURCES).filter(Files::isRegularFile)) {
            DUE.is("files", files.toList().toString(), "[" + SOURCES.resolve("ClassProbe.java") + "]");
        }
        DUE.is("package", ClassProbe.class.getPackageName(), "");
    }

    private static void classesInside() {
        DUE.sentence("1: the classes inside it, which are private or package-visible and static");
        for (Class<?> inside : allClasses()) {
            if (inside != ClassProbe.class) {
                boolean hidden = (inside.getModifiers() & (Modifier.PUBLIC | Modifier.PROTECTED)) == 0;
                DUE.is(inside + " is hidden", hidden, true);
                DUE.is(inside + " is static", Modifier.isStatic(inside.getModifiers()), true);
            }
        }
    }

    private static void namesOfPrivateMethods() {
        DUE.sentence("1: No private method bears the name of a public one.");
        Set<String> names = new TreeSet<>();
        for (Method method : ClassProbe.class.getMethods()) {
            names.add(method.getName());
        }
        for (Class<?> one : allClasses()) {
            for (Method method : one.getDeclaredMethods()) {
                if (Modifier.isPrivate(method.getModifiers())) {
                    DUE.is(method + " has a public one's name", names.contains(method.getName()), false);
                }
            }
        }
    }

    private static void library() throws IOException {
        DUE.sentence("4: The library: only what stands here.");
        for (Class<?> one : allClasses()) {
            for (String used : usedBy(one)) {
                DUE.is(one + " uses " + used, used.startsWith("ClassProbe") || LIBRARY.contains(used), true);
            }
        }
    }

    /** The rule leaves rows written out and enums as well; the class has none of them. */
    private static void staticFields() throws IOException {
        DUE.sentence("5: Static fields are final: constants of int, long, boolean, char or String, ..; no static ..");
        for (Class<?> one : allClasses()) {
            for (Field field : one.getDeclaredFields()) {
                if (Modifier.isStatic(field.getModifiers())) {
                    boolean leaf = List.of(int.class, long.class, boolean.class, char.class, String.class)
                        .contains(field.getType());
                    DUE.is(field + " is a constant", leaf && Modifier.isFinal(field.getModifiers()), true);
                }
            }
            DUE.is(one + " has a static block", words(one).contains("<clinit>"), false);
        }
    }

    /** The rules leave some of these on conditions, but the class throws nothing and has no need for any. */
    private static void wordsThatAreNotLeft() throws IOException {
        DUE.sentence("2, 6: no lambda, no method reference; No finally, .. synchronized, assert; exceptions");
        String source = Files.readString(SOURCES.resolve("ClassProbe.java")).replaceAll("(?s)/\\*.*?\\*/|//[^\n]*", "");
        String[] words = {
            "->", "::", "\\bimport\\b", "\\bpackage\\b", "\\bthrow\\b", "\\bthrows\\b", "\\btry\\b", "\\bcatch\\b",
            "\\bfinally\\b", "\\bsynchronized\\b", "\\bassert\\b"
        };
        for (String word : words) {
            DUE.is(word + " stands in the source", source.matches("(?s).*" + word + ".*"), false);
        }
    }

    /** A method ends with the brace that is as far in as its first line. */
    private static void lengthOfMethods() throws IOException {
        DUE.sentence("11: Methods stay short (some sixty lines)");
        List<String> lines = Files.readAllLines(SOURCES.resolve("ClassProbe.java"));
        for (int first = 0; first < lines.size(); first++) {
            String head = lines.get(first);
            if (head.matches(" +(public|private) .*\\) \\{")) {
                String end = head.replaceAll("\\S.*", "") + "}";
                int last = first;
                while (last < lines.size() && !lines.get(last).equals(end)) {
                    last++;
                }
                DUE.is("lines of" + head + " are " + (last - first + 1), last - first + 1 <= MOST_LINES, true);
            }
        }
    }

    private static void sizes() {
        DUE.sentence("11: A method takes at most seven parameters .. some twelve classes, .. some twenty fields");
        DUE.is("classes are few enough", allClasses().size() <= MOST_CLASSES, true);
        for (Class<?> one : allClasses()) {
            int fields = 0;
            for (Field field : one.getDeclaredFields()) {
                fields += Modifier.isStatic(field.getModifiers()) ? 0 : 1;
            }
            DUE.is("fields of " + one + " are few enough", fields <= MOST_FIELDS, true);
            for (Method method : one.getDeclaredMethods()) {
                DUE.is(method + " takes few enough", method.getParameterCount() <= MOST_PARAMETERS, true);
            }
        }
    }

    private static List<Class<?>> allClasses() {
        List<Class<?>> all = new ArrayList<>(List.of(ClassProbe.class));
        for (int next = 0; next < all.size(); next++) {
            all.addAll(Arrays.asList(all.get(next).getDeclaredClasses()));
        }
        return all;
    }

    /** Every field and method that the class file names, with its class; or that it links what is named at run time. */
    private static Set<String> usedBy(Class<?> one) throws IOException {
        Object[] pool = constantPool(one);
        Set<String> all = new TreeSet<>();
        for (Object entry : pool) {
            if (entry instanceof int[] link && (link[0] == 17 || link[0] == 18)) {
                all.add("invokedynamic");
            } else if (entry instanceof int[] link && link[0] >= 9 && link[0] <= 11) {
                all.add(pool[((int[]) pool[link[1]])[1]] + "." + pool[((int[]) pool[link[2]])[1]]);
            }
        }
        return all;
    }

    private static Set<String> words(Class<?> one) throws IOException {
        Set<String> all = new TreeSet<>();
        for (Object entry : constantPool(one)) {
            if (entry instanceof String word) {
                all.add(word);
            }
        }
        return all;
    }

    /** The constant pool of the class file: words as Strings, entries that point to others as kind, first, second. */
    private static Object[] constantPool(Class<?> one) throws IOException {
        try (InputStream file = one.getResourceAsStream("/" + one.getName() + ".class");
                DataInputStream in = new DataInputStream(file)) {
            in.readLong();
            Object[] pool = new Object[in.readUnsignedShort()];
            for (int i = 1; i < pool.length; i++) {
                int kind = in.readUnsignedByte();
                pool[i] = entry(in, kind);
                // A long or a double takes two places.
                i += kind == 5 || kind == 6 ? 1 : 0;
            }
            return pool;
        }
    }

    private static Object entry(DataInputStream in, int kind) throws IOException {
        switch (kind) {
            case 1:
                return in.readUTF();
            case 3:
            case 4:
                return in.readInt();
            case 5:
            case 6:
                return in.readLong();
            case 7:
            case 8:
            case 16:
                return new int[] {kind, in.readUnsignedShort(), 0};
            case 15:
                return new int[] {kind, in.readUnsignedByte(), in.readUnsignedShort()};
            default:
                return new int[] {kind, in.readUnsignedShort(), in.readUnsignedShort()};
        }
    }
}
