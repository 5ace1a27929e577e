import java.util.List;

/** The section 'Terms', sentence by sentence: the names, texts and modifiers, and how they hang together. */
public final class TermsOfTextsTest {
    /** The access modifiers: public, private, protected. */
    private static final int ACCESS = 1 + 2 + 4;

    private static final Due DUE = new Due();

    public static void main(String[] args) {
        namesAsWritten();
        namesOfMembers();
        namesOfTheThree();
        descriptors();
        theName();
        theShortName();
        theFullName();
        theTypesName();
        thePackage();
        theNameWithItsKind();
        theDescriptor();
        theWords();
        modifiers();
        modifiersOfArrays();
        DUE.end();
    }

    private static void namesAsWritten() {
        DUE.sentence("NAMES of a PLAIN type: PRIMITIVE ones, 9, 10 and 11 are called as written above");
        List<String> names = List.of("boolean", "byte", "char", "short", "int", "long", "float", "double", "void",
            "java.lang.Object", "java.lang.Runnable", "ClassProbe");
        for (int t = 0; t <= 11; t++) {
            text(t, 0, names.get(t));
        }
    }

    private static void namesOfMembers() {
        DUE.sentence("NAMES .. of a MEMBER it is that of the class it stands in, $, and its own");
        List<String> own = List.of("Mark", "Shape", "Circle", "Square", "Color", "-", "Inner", "Deep", "Note", "Box",
            "Tall");
        for (int t = 12; t <= 22; t++) {
            if (t != 17) {
                text(t, 0, Texts.read(t == 19 ? 18 : 11, 0) + "$" + own.get(t - 12));
            }
        }
    }

    private static void namesOfTheThree() {
        DUE.sentence("NAMES .. 17 is ClassProbe$Color$1, 23 ClassProbe$1Local, 24 ClassProbe$1");
        text(17, 0, "ClassProbe$Color$1");
        text(23, 0, "ClassProbe$1Local");
        text(24, 0, "ClassProbe$1");
    }

    private static void descriptors() {
        DUE.sentence("THE DESCRIPTOR: Z B C S I J F D V for the PRIMITIVE types in order");
        for (int t = 0; t <= 8; t++) {
            text(t, 6, "ZBCSIJFDV".substring(t, t + 1));
        }
        DUE.sentence("THE DESCRIPTOR .. L, the NAME with / for each point, and ; for the others");
        for (int t = 9; t <= 24; t++) {
            text(t, 6, "L" + Texts.read(t, 0).replace('.', '/') + ";");
        }
        text(9, 6, "Ljava/lang/Object;");
        text(19, 6, "LClassProbe$Inner$Deep;");
    }

    private static void theName() {
        DUE.sentence("0 THE NAME: of an array, [ and: the DESCRIPTOR .. or L, the NAME and ; .. with as many [ ..");
        forArrays((t, element) -> {
            int plain = t % 40;
            String coded = plain <= 8 ? Texts.read(plain, 6) : "L" + Texts.read(plain, 0) + ";";
            text(t, 0, (t < 80 ? "[" : "[[") + coded);
        });
    }

    private static void theShortName() {
        DUE.sentence("1 THE SHORT NAME: Object, Runnable, and the own name of others (none, empty, for NAMELESS ones)");
        List<String> names = List.of("boolean", "byte", "char", "short", "int", "long", "float", "double", "void",
            "Object", "Runnable", "ClassProbe", "Mark", "Shape", "Circle", "Square", "Color", "", "Inner", "Deep",
            "Note", "Box", "Tall", "Local", "");
        for (int t = 0; t <= 24; t++) {
            text(t, 1, names.get(t));
        }
        DUE.sentence("1 THE SHORT NAME .. of an array, that of its elements' type and []");
        forArrays((t, element) -> text(t, 1, Texts.read(element, 1) + "[]"));
    }

    private static void theFullName() {
        DUE.sentence("2 THE FULL NAME: THE NAME with a point for each $; 17, 23 and 24 have none");
        for (int t = 0; t <= 24; t++) {
            text(t, 2, Numbers.isAmong(t, 17, 23, 24) ? null : Texts.read(t, 0).replace('$', '.'));
        }
        DUE.sentence("2 THE FULL NAME .. of an array, that of its elements' type and [], or none");
        forArrays((t, element) -> text(t, 2, Texts.read(element, 2) == null ? null : Texts.read(element, 2) + "[]"));
    }

    private static void theTypesName() {
        DUE.sentence("3 THE TYPE'S NAME: THE NAME");
        for (int t = 0; t <= 24; t++) {
            text(t, 3, Texts.read(t, 0));
        }
        DUE.sentence("3 THE TYPE'S NAME .. of an array, that of its elements' type and []");
        forArrays((t, element) -> text(t, 3, Texts.read(element, 3) + "[]"));
    }

    private static void thePackage() {
        DUE.sentence("4 THE PACKAGE: java.lang for the PRIMITIVE types, 9 and 10, else empty");
        for (int t = 0; t <= 24; t++) {
            text(t, 4, t <= 10 ? "java.lang" : "");
        }
        DUE.sentence("4 THE PACKAGE .. of an array, its elements' one");
        forArrays((t, element) -> text(t, 4, Texts.read(element, 4)));
    }

    private static void theNameWithItsKind() {
        DUE.sentence("5 THE NAME; before it, \"interface \" .., nothing for PRIMITIVE types, \"class \" for others");
        for (int t : Numbers.allTypes()) {
            String before = Numbers.isAmong(t, 10, 12, 13, 20) ? "interface " : t <= 8 ? "" : "class ";
            text(t, 5, before + Texts.read(t, 0));
        }
    }

    private static void theDescriptor() {
        DUE.sentence("THE DESCRIPTOR .. of an array, [ and that of its elements' type; 6 THE DESCRIPTOR");
        forArrays((t, element) -> text(t, 6, "[" + Texts.read(element, 6)));
    }

    private static void theWords() {
        DUE.sentence("7 the words for the MODIFIERS .. in the order public, protected, private, abstract, static, ..");
        int[] numbers = {1, 4, 2, 1024, 8, 16, 512};
        String[] words = {"public", "protected", "private", "abstract", "static", "final", "interface"};
        for (int t : Numbers.allTypes()) {
            int modifiers = new ClassProbe().number(t, 0);
            StringBuilder all = new StringBuilder();
            for (int i = 0; i < words.length; i++) {
                if ((modifiers & numbers[i]) != 0) {
                    all.append(all.length() == 0 ? "" : " ").append(words[i]);
                }
            }
            text(t, 7, all.toString());
        }
        text(4, 7, "public abstract final");
        text(12, 7, "abstract static interface");
        text(58, 7, "private abstract final");
        text(59, 7, "protected abstract final");
    }

    private static void modifiers() {
        DUE.sentence("MODIFIERS .. PRIMITIVE types 1 + 16 + 1024; 9 1; 10 1 + 512 + 1024; 11 1 + 16; 12 and 13 ..");
        for (int t = 0; t <= 8; t++) {
            number(t, 0, 1 + 16 + 1024);
        }
        int[] from9 = {
            1, 1 + 512 + 1024, 1 + 16, 8 + 512 + 1024, 8 + 512 + 1024, 8 + 16, 8 + 16, 8 + 16384, 16 + 16384, 2, 4,
            8 + 512 + 1024 + 8192, 8 + 1024, 8, 0, 0
        };
        for (int t = 9; t <= 24; t++) {
            number(t, 0, from9[t - 9]);
        }
    }

    private static void modifiersOfArrays() {
        DUE.sentence("MODIFIERS .. an array 16 + 1024 and what of 1, 2, 4 its elements' type has");
        forArrays((t, element) -> number(t, 0, 16 + 1024 + (new ClassProbe().number(element, 0) & ACCESS)));
    }

    /** What is asked of every array, and of the type of its elements. */
    private interface OfArray {
        void ask(int t, int element);
    }

    private static void forArrays(OfArray asked) {
        for (int t : Numbers.allTypes()) {
            if (t >= 40) {
                asked.ask(t, t - 40);
            }
        }
    }

    private static void number(int t, int what, int want) {
        DUE.is("number(" + t + ", " + what + ")", new ClassProbe().number(t, what), want);
    }

    private static void text(int t, int which, String want) {
        DUE.is("text " + which + " of " + t, String.valueOf(Texts.read(t, which)), String.valueOf(want));
    }
}
