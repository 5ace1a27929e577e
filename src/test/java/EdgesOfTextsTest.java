/** The edges of promises 2 (letter) and 3 (size), and of what the document says of TEXTS, sentence by sentence. */
public final class EdgesOfTextsTest {
    private static final int REFUSED = ClassProbe.REFUSED;
    private static final int NULL = ClassProbe.NULL;
    private static final int[] FAR = {Integer.MIN_VALUE, -1, 0, 1, 40, Integer.MAX_VALUE};

    /** All texts of the types at the edges of their ranges, whole; null where there is none. */
    private static final Object[][] WHOLE = {
        {0, "boolean", "boolean", "boolean", "boolean", "java.lang", "boolean", "Z", "public abstract final"},
        {7, "double", "double", "double", "double", "java.lang", "double", "D", "public abstract final"},
        {8, "void", "void", "void", "void", "java.lang", "void", "V", "public abstract final"},
        {9, "java.lang.Object", "Object", "java.lang.Object", "java.lang.Object", "java.lang",
            "class java.lang.Object", "Ljava/lang/Object;", "public"},
        {10, "java.lang.Runnable", "Runnable", "java.lang.Runnable", "java.lang.Runnable", "java.lang",
            "interface java.lang.Runnable", "Ljava/lang/Runnable;", "public abstract interface"},
        {11, "ClassProbe", "ClassProbe", "ClassProbe", "ClassProbe", "", "class ClassProbe", "LClassProbe;",
            "public final"},
        {12, "ClassProbe$Mark", "Mark", "ClassProbe.Mark", "ClassProbe$Mark", "", "interface ClassProbe$Mark",
            "LClassProbe$Mark;", "abstract static interface"},
        {17, "ClassProbe$Color$1", "", null, "ClassProbe$Color$1", "", "class ClassProbe$Color$1",
            "LClassProbe$Color$1;", "final"},
        {23, "ClassProbe$1Local", "Local", null, "ClassProbe$1Local", "", "class ClassProbe$1Local",
            "LClassProbe$1Local;", ""},
        {24, "ClassProbe$1", "", null, "ClassProbe$1", "", "class ClassProbe$1", "LClassProbe$1;", ""},
        {40, "[Z", "boolean[]", "boolean[]", "boolean[]", "java.lang", "class [Z", "[Z", "public abstract final"},
        {47, "[D", "double[]", "double[]", "double[]", "java.lang", "class [D", "[D", "public abstract final"},
        {49, "[Ljava.lang.Object;", "Object[]", "java.lang.Object[]", "java.lang.Object[]", "java.lang",
            "class [Ljava.lang.Object;", "[Ljava/lang/Object;", "public abstract final"},
        {64, "[LClassProbe$1;", "[]", null, "ClassProbe$1[]", "", "class [LClassProbe$1;", "[LClassProbe$1;",
            "abstract final"},
        {80, "[[Z", "boolean[][]", "boolean[][]", "boolean[][]", "java.lang", "class [[Z", "[[Z",
            "public abstract final"},
        {87, "[[D", "double[][]", "double[][]", "double[][]", "java.lang", "class [[D", "[[D",
            "public abstract final"},
        {89, "[[Ljava.lang.Object;", "Object[][]", "java.lang.Object[][]", "java.lang.Object[][]", "java.lang",
            "class [[Ljava.lang.Object;", "[[Ljava/lang/Object;", "public abstract final"},
        {104, "[[LClassProbe$1;", "[][]", null, "ClassProbe$1[][]", "", "class [[LClassProbe$1;",
            "[[LClassProbe$1;", "abstract final"},
    };

    private static final Due DUE = new Due();

    public static void main(String[] args) {
        otherPlacesAreZero();
        lengthOfText();
        noSuchType();
        noSuchTypeSize();
        noSuchNumber();
        noSuchNumberSize();
        noSuchText();
        noSuchTextSize();
        emptyShortNames();
        noFullNames();
        emptyPackages();
        emptyModifiers();
        modifiersWithoutWord();
        DUE.end();
    }

    private static void otherPlacesAreZero() {
        DUE.sentence("2: Character i (from 0) of text number which (0 .. 7) of the type, its code; 0 for any other i.");
        for (Object[] row : WHOLE) {
            for (int which = 0; which <= 7; which++) {
                if (row[1 + which] != null) {
                    askPlaces((Integer) row[0], which, (String) row[1 + which]);
                }
            }
        }
    }

    private static void askPlaces(int t, int which, String text) {
        int length = text.length();
        int[] others = {Integer.MIN_VALUE, -length, -2, -1, length, length + 1, length + 256, Integer.MAX_VALUE};
        for (int i : others) {
            if (!Numbers.within(i, 0, length - 1)) {
                askLetter(t, which, i, 0);
            }
        }
        for (int i = 0; i < length; i++) {
            askLetter(t, which, i, text.charAt(i));
        }
    }

    private static void lengthOfText() {
        DUE.sentence("3: The length of the text");
        for (Object[] row : WHOLE) {
            for (int which = 0; which <= 7; which++) {
                if (row[1 + which] != null) {
                    askSize((Integer) row[0], which, ((String) row[1 + which]).length());
                }
            }
        }
    }

    private static void noSuchType() {
        DUE.sentence("2: No such type or number: REFUSED (the type)");
        for (int no : Numbers.manyNoTypes()) {
            for (int which = 0; which <= 7; which++) {
                askLetter(no, which, 0, REFUSED);
            }
            askLetter(no, 0, -1, REFUSED);
            askLetter(no, 8, 0, REFUSED);
        }
    }

    private static void noSuchTypeSize() {
        DUE.sentence("3: REFUSED and NULL as for letter (no such type)");
        for (int no : Numbers.manyNoTypes()) {
            for (int which = -1; which <= 8; which++) {
                askSize(no, which, REFUSED);
            }
        }
    }

    private static void noSuchNumber() {
        DUE.sentence("2: No such type or number: REFUSED (the number)");
        for (int t : Numbers.allTypes()) {
            for (int which : Numbers.outside(0, 7)) {
                for (int i : FAR) {
                    askLetter(t, which, i, REFUSED);
                }
            }
        }
    }

    private static void noSuchNumberSize() {
        DUE.sentence("3: REFUSED and NULL as for letter (no such number)");
        for (int t : Numbers.allTypes()) {
            for (int which : Numbers.outside(0, 7)) {
                askSize(t, which, REFUSED);
            }
        }
    }

    /** NULL is due whatever i is, for there is no text that i could be outside of. */
    private static void noSuchText() {
        DUE.sentence("2: it has no such text: NULL");
        int[] without = {17, 23, 24, 57, 63, 64, 97, 103, 104};
        for (int t : without) {
            for (int i : FAR) {
                askLetter(t, 2, i, NULL);
            }
        }
    }

    private static void noSuchTextSize() {
        DUE.sentence("3: REFUSED and NULL as for letter (no such text)");
        for (int t : Numbers.allTypes()) {
            for (int which = 0; which <= 7; which++) {
                boolean none = which == 2 && Numbers.isAmong(t % 40, 17, 23, 24);
                DUE.is("size(" + t + ", " + which + ") is NULL", new ClassProbe().size(t, which) == NULL, none);
            }
        }
    }

    private static void emptyShortNames() {
        DUE.sentence("Terms: 1 THE SHORT NAME: .. (none, empty, for NAMELESS ones)");
        int[] nameless = {17, 24};
        for (int t : nameless) {
            askEmpty(t, 1);
            askText(40 + t, 1, "[]");
            askText(80 + t, 1, "[][]");
        }
        askText(16, 1, "Color");
        askText(18, 1, "Inner");
        askText(23, 1, "Local");
        askText(63, 1, "Local[]");
    }

    private static void noFullNames() {
        DUE.sentence("Terms: 2 THE FULL NAME: .. 17, 23 and 24 have none; of an array, .. or none.");
        int[] without = {17, 23, 24};
        for (int t : without) {
            askSize(t, 2, NULL);
            askSize(40 + t, 2, NULL);
            askSize(80 + t, 2, NULL);
        }
        askText(16, 2, "ClassProbe.Color");
        askText(56, 2, "ClassProbe.Color[]");
        askText(18, 2, "ClassProbe.Inner");
        askText(22, 2, "ClassProbe.Tall");
        askText(102, 2, "ClassProbe.Tall[][]");
        askText(8, 2, "void");
    }

    private static void emptyPackages() {
        DUE.sentence("Terms: 4 THE PACKAGE: java.lang for the PRIMITIVE types, 9 and 10, else empty");
        for (int t : Numbers.allTypes()) {
            if (t % 40 <= 10) {
                askText(t, 4, "java.lang");
            } else {
                askEmpty(t, 4);
            }
        }
    }

    private static void emptyModifiers() {
        DUE.sentence("Terms: MODIFIERS .. 23 and 24 0 (so that text 7 is empty)");
        for (int t : Numbers.allTypes()) {
            if (Numbers.isAmong(t, 23, 24)) {
                askEmpty(t, 7);
            } else {
                DUE.is("size(" + t + ", 7) is above 0", new ClassProbe().size(t, 7) > 0, true);
            }
        }
        askText(63, 7, "abstract final");
        askText(104, 7, "abstract final");
    }

    private static void modifiersWithoutWord() {
        DUE.sentence("Terms: MODIFIERS .. (8192 and 16384 have no word)");
        askText(16, 7, "static");
        askText(17, 7, "final");
        askText(20, 7, "abstract static interface");
    }

    private static void askEmpty(int t, int which) {
        askSize(t, which, 0);
        for (int i : FAR) {
            askLetter(t, which, i, 0);
        }
    }

    private static void askText(int t, int which, String text) {
        askSize(t, which, text.length());
        askPlaces(t, which, text);
    }

    private static void askSize(int t, int which, int want) {
        DUE.is("size(" + t + ", " + which + ")", new ClassProbe().size(t, which), want);
    }

    private static void askLetter(int t, int which, int i, int want) {
        DUE.is("letter(" + t + ", " + which + ", " + i + ")", new ClassProbe().letter(t, which, i), want);
    }
}
