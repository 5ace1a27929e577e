import java.util.Set;
import java.util.TreeSet;
import java.util.function.IntBinaryOperator;
import java.util.stream.IntStream;

/** What each constant means, and which answers below 0 each call has: all that the document tells, and no other. */
public final class AnswersTest {
    private static final int DONE = ClassProbe.DONE;
    private static final int REFUSED = ClassProbe.REFUSED;
    private static final int NULL = ClassProbe.NULL;
    private static final int OTHER = ClassProbe.OTHER;
    private static final int NOT_FOUND = ClassProbe.NOT_FOUND;
    private static final int CAST = ClassProbe.CAST;
    private static final int FULL = ClassProbe.FULL;
    /** From below the types to above them, and both ends of int. */
    private static final int[] ARGUMENTS = IntStream.concat(IntStream.rangeClosed(-45, 130),
        IntStream.of(Integer.MIN_VALUE, Integer.MIN_VALUE + 1, -256, 255, 256, 65536, Integer.MAX_VALUE)).toArray();

    private static final Due DUE = new Due();

    public static void main(String[] args) {
        done();
        refusedNumbers();
        refusedTypes();
        refusedTexts();
        nulls();
        others();
        notFound();
        cast();
        full();
        answersOnTypes();
        answersOnPairs();
        answersOnText();
        answersOnSlots();
        DUE.end();
    }

    private static void done() {
        DUE.sentence("DONE = 0: Done.");
        DUE.is("put(0, 9)", new ClassProbe().put(0, 9), DONE);
        DUE.is("put(0, -1)", new ClassProbe().put(0, -1), DONE);
        DUE.is("cast(0, 9)", new ClassProbe().cast(0, 9), DONE);
        DUE.is("cast(an Object, 9)", benchOf(9).cast(0, 9), DONE);
    }

    private static void refusedNumbers() {
        DUE.sentence("REFUSED = -1: A number out of range");
        DUE.is("letter(9, 8, 0)", new ClassProbe().letter(9, 8, 0), REFUSED);
        DUE.is("size(9, -1)", new ClassProbe().size(9, -1), REFUSED);
        DUE.is("number(11, 8)", new ClassProbe().number(11, 8), REFUSED);
        DUE.is("related(11, 6)", new ClassProbe().related(11, 6), REFUSED);
        DUE.is("type(32)", new ClassProbe().type(32), REFUSED);
        DUE.is("types(127)", new ClassProbe().types(127), REFUSED);
        DUE.is("put(8, 9)", new ClassProbe().put(8, 9), REFUSED);
        DUE.is("typeOf(-1)", new ClassProbe().typeOf(-1), REFUSED);
        DUE.is("cast(8, 9)", new ClassProbe().cast(8, 9), REFUSED);
        DUE.is("light(8)", new ClassProbe().light(8), REFUSED);
    }

    private static void refusedTypes() {
        DUE.sentence("REFUSED = -1: .. no type");
        DUE.is("letter(25, 0, 0)", new ClassProbe().letter(25, 0, 0), REFUSED);
        DUE.is("size(48, 0)", new ClassProbe().size(48, 0), REFUSED);
        DUE.is("number(25, 0)", new ClassProbe().number(25, 0), REFUSED);
        DUE.is("related(88, 0)", new ClassProbe().related(88, 0), REFUSED);
        DUE.is("interfaceOf(105, 0)", new ClassProbe().interfaceOf(105, 0), REFUSED);
        DUE.is("asSubclass(9, 25)", new ClassProbe().asSubclass(9, 25), REFUSED);
        DUE.is("put(0, 25)", new ClassProbe().put(0, 25), REFUSED);
        DUE.is("cast(0, 25)", new ClassProbe().cast(0, 25), REFUSED);
    }

    private static void refusedTexts() {
        DUE.sentence("REFUSED = -1: .. or a text that may not be asked.");
        DUE.is("find() of nothing", typed("").find(), REFUSED);
        DUE.is("find() of java.lang.String", typed("java.lang.String").find(), REFUSED);
        DUE.is("find() of [II", typed("[II").find(), REFUSED);
    }

    private static void nulls() {
        DUE.sentence("NULL = -2: There is none");
        DUE.is("letter(17, 2, 0)", new ClassProbe().letter(17, 2, 0), NULL);
        DUE.is("size(24, 2)", new ClassProbe().size(24, 2), NULL);
        DUE.is("number(14, 3)", new ClassProbe().number(14, 3), NULL);
        DUE.is("related(9, 0)", new ClassProbe().related(9, 0), NULL);
        DUE.is("interfaceOf(9, 0)", new ClassProbe().interfaceOf(9, 0), NULL);
        DUE.is("put(0, 10)", new ClassProbe().put(0, 10), NULL);
        DUE.sentence("NULL = -2: .. or a null.");
        DUE.is("typeOf(0)", new ClassProbe().typeOf(0), NULL);
        DUE.is("light(0)", new ClassProbe().light(0), NULL);
    }

    private static void others() {
        DUE.sentence("OTHER = -3: A type that has no number here");
        DUE.is("related(14, 0), Record", new ClassProbe().related(14, 0), OTHER);
        DUE.is("related(84, 5), int[][][]", new ClassProbe().related(84, 5), OTHER);
        DUE.is("interfaceOf(44, 0), Cloneable", new ClassProbe().interfaceOf(44, 0), OTHER);
        DUE.is("find() of [[[I", typed("[[[I").find(), OTHER);
        DUE.sentence("OTHER = -3: .. or another thing.");
        DUE.is("light(a Square)", benchOf(15).light(0), OTHER);
    }

    private static void notFound() {
        DUE.sentence("NOT_FOUND = -4: No type of that name.");
        DUE.is("find() of ClassProbe$None", typed("ClassProbe$None").find(), NOT_FOUND);
        DUE.is("find() of [V", typed("[V").find(), NOT_FOUND);
    }

    private static void cast() {
        DUE.sentence("CAST = -5: It is not of that type.");
        DUE.is("asSubclass(9, 14)", new ClassProbe().asSubclass(9, 14), CAST);
        DUE.is("cast(an Object, 14)", benchOf(9).cast(0, 14), CAST);
    }

    private static void full() {
        DUE.sentence("FULL = -6: No room for a character.");
        DUE.is("type(73) with 40", typed("x".repeat(40)).type(73), FULL);
        DUE.is("types(73) with 40", typed("x".repeat(40)).types(73), FULL);
    }

    private static void answersOnTypes() {
        DUE.sentence("2, 3, 5, 6, 7: the answers below 0 of letter, size, number, related and interfaceOf");
        askBelow("letter at 0", (t, which) -> new ClassProbe().letter(t, which, 0), REFUSED, NULL);
        askBelow("letter at -1", (t, which) -> new ClassProbe().letter(t, which, -1), REFUSED, NULL);
        askBelow("size", (t, which) -> new ClassProbe().size(t, which), REFUSED, NULL);
        askBelow("number", (t, what) -> new ClassProbe().number(t, what), REFUSED, NULL);
        askBelow("related", (t, what) -> new ClassProbe().related(t, what), REFUSED, NULL, OTHER);
        askBelow("interfaceOf", (t, k) -> new ClassProbe().interfaceOf(t, k), REFUSED, NULL, OTHER);
        DUE.sentence("6, 7: The number of a type, where the answer is not below 0");
        askTypes("related", (t, what) -> new ClassProbe().related(t, what));
        askTypes("interfaceOf", (t, k) -> new ClassProbe().interfaceOf(t, k));
    }

    private static void answersOnPairs() {
        DUE.sentence("9: the answers below 0 of asSubclass");
        askBelow("asSubclass", (u, t) -> new ClassProbe().asSubclass(u, t), REFUSED, CAST);
        DUE.sentence("9: u, where the answer is not below 0");
        for (int u : ARGUMENTS) {
            for (int t : ARGUMENTS) {
                int answer = new ClassProbe().asSubclass(u, t);
                DUE.is("asSubclass(" + u + ", " + t + ")", answer < 0 ? u : answer, u);
            }
        }
    }

    private static void answersOnText() {
        DUE.sentence("11, 12, 13: the answers below 0 of type, types and find");
        askBelow("type", (length, c) -> typed(lengthOf(length)).type(c), REFUSED, FULL);
        askBelow("types", (length, c) -> typed(lengthOf(length)).types(c), REFUSED, FULL);
        askBelow("find", (a, b) -> typed(someText(a, b)).find(), REFUSED, NOT_FOUND, OTHER);
        DUE.sentence("13: The answer is the type, where it is not below 0");
        askTypes("find", (a, b) -> typed(someText(a, b)).find());
    }

    private static void answersOnSlots() {
        DUE.sentence("14, 15, 17, 18: the answers below 0 of put, typeOf, cast and light");
        askBelow("put", (slot, t) -> benchOf(9).put(slot, t), REFUSED, NULL);
        askBelow("typeOf", (slot, t) -> benchOf(t).typeOf(slot), REFUSED, NULL);
        askBelow("cast", (slot, t) -> benchOf(22).cast(slot, t), REFUSED, CAST);
        askBelow("cast of null", (slot, t) -> new ClassProbe().cast(slot, t), REFUSED);
        askBelow("light", (slot, t) -> benchOf(t).light(slot), REFUSED, NULL, OTHER);
        DUE.sentence("15: The type of the thing, where the answer is not below 0");
        askTypes("typeOf", (slot, t) -> benchOf(t).typeOf(slot));
        DUE.sentence("14, 17, 18: DONE, or 1, 12 and 114, where the answer is not below 0");
        for (int slot : ARGUMENTS) {
            for (int t : ARGUMENTS) {
                String asked = "(" + slot + ", " + t + ")";
                DUE.is("put" + asked + " is not above 0", benchOf(9).put(slot, t) <= DONE, true);
                DUE.is("cast" + asked + " is not above 0", benchOf(22).cast(slot, t) <= DONE, true);
                int light = benchOf(t).light(slot);
                DUE.is("light" + asked, light < 0 || Numbers.isAmong(light, 1, 12, 114), true);
            }
        }
    }

    /** Asks with all pairs of arguments, and that these answers below 0 come, each of them, and no other. */
    private static void askBelow(String call, IntBinaryOperator asked, Integer... due) {
        Set<Integer> below = new TreeSet<>();
        for (int a : ARGUMENTS) {
            for (int b : ARGUMENTS) {
                int answer = asked.applyAsInt(a, b);
                if (answer < 0) {
                    below.add(answer);
                }
            }
        }
        DUE.is("the answers below 0 of " + call, below.toString(), new TreeSet<>(Set.of(due)).toString());
    }

    private static void askTypes(String call, IntBinaryOperator asked) {
        for (int a : ARGUMENTS) {
            for (int b : ARGUMENTS) {
                int answer = asked.applyAsInt(a, b);
                boolean good = answer < 0 || Numbers.isType(answer);
                DUE.is(call + " with " + a + " and " + b + " answers a type, if not below 0", good, true);
            }
        }
    }

    private static String lengthOf(int number) {
        return "x".repeat(Math.floorMod(number, 41));
    }

    /** A text of each sort: by one number the brackets before it, by the other what follows. */
    private static String someText(int a, int b) {
        String[] words = {
            "", "I", "V", "II", "L;", "ClassProbe", "LClassProbe;", "ClassProbe$1", "LClassProbe$1;", "ClassProbe$x",
            "LClassProbe$x;", "int", "Lint;", "java.lang.Object", "Ljava.lang.Object;", "java.lang.String"
        };
        return "[".repeat(Math.floorMod(a, 5)) + words[Math.floorMod(b, words.length)];
    }

    private static ClassProbe typed(String text) {
        ClassProbe x = new ClassProbe();
        for (int i = 0; i < text.length(); i++) {
            x.type(text.charAt(i));
        }
        return x;
    }

    /** A bench that has been asked for a thing of the type in every SLOT. */
    private static ClassProbe benchOf(int t) {
        ClassProbe x = new ClassProbe();
        for (int slot = 0; slot <= 7; slot++) {
            x.put(slot, t);
        }
        return x;
    }
}
