/** Promises 1 (an empty TEXT), 11 (type), 12 (types) and 13 (find). */
public final class FindTest {
    private static final String[] NAMES = {
        "boolean", "byte", "char", "short", "int", "long", "float", "double", "void", "java.lang.Object",
        "java.lang.Runnable", "ClassProbe", "ClassProbe$Mark", "ClassProbe$Shape", "ClassProbe$Circle",
        "ClassProbe$Square", "ClassProbe$Color", "ClassProbe$Color$1", "ClassProbe$Inner", "ClassProbe$Inner$Deep",
        "ClassProbe$Note", "ClassProbe$Box", "ClassProbe$Tall", "ClassProbe$1Local", "ClassProbe$1"
    };
    private static final int NOT_FOUND = ClassProbe.NOT_FOUND;
    private static final int REFUSED = ClassProbe.REFUSED;
    private static final int OTHER = ClassProbe.OTHER;

    private static final Due DUE = new Due();

    public static void main(String[] args) {
        askTyping();
        askTypingFull();
        askTypingEight();
        askEightThatStop();
        askNames();
        askCodes();
        askNotFound();
        askRefused();
        askEmptyAfterwards();
        DUE.end();
    }

    private static void askTyping() {
        ClassProbe x = new ClassProbe();
        int[] refused = {Integer.MIN_VALUE, -73, -1, 0, 10, 31, 32, 127, 128, 255, 256 + 73, 65536 + 73,
            Integer.MAX_VALUE};
        for (int c : refused) {
            DUE.is("type(" + c + ")", x.type(c), REFUSED);
        }
        DUE.is("type(33)", x.type(33), 1);
        DUE.is("type(126)", x.type(126), 2);
        DUE.is("type(32)", x.type(32), REFUSED);
        DUE.is("type(73)", x.type(73), 3);
        DUE.is("find() of !~I", x.find(), REFUSED);
        DUE.is("type([)", x.type('['), 1);
        DUE.is("type(32)", x.type(32), REFUSED);
        DUE.is("type(I)", x.type('I'), 2);
        DUE.is("find() of [I", x.find(), 44);
    }

    private static void askTypingFull() {
        ClassProbe x = new ClassProbe();
        for (int length = 1; length <= 40; length++) {
            DUE.is("type([) as number " + length, x.type('['), length);
        }
        DUE.is("type([) as number 41", x.type('['), ClassProbe.FULL);
        DUE.is("type(I) as number 41", x.type('I'), ClassProbe.FULL);
        DUE.is("type(32) with 40", x.type(32), REFUSED);
        DUE.is("types(0) with 40", x.types(0), 40);
        DUE.is("types(73) with 40", x.types(73), ClassProbe.FULL);
        DUE.is("types(0x2049) with 40", x.types(0x2049), REFUSED);
        DUE.is("find() of 40 [", x.find(), NOT_FOUND);
        DUE.is("type(I) afterwards", x.type('I'), 1);
    }

    private static void askTypingEight() {
        ClassProbe x = new ClassProbe();
        DUE.is("types(0) at first", x.types(0), 0);
        DUE.is("types(ClassPro)", x.types(0x436C61737350726FL), 8);
        DUE.is("types(0)", x.types(0), 8);
        DUE.is("types(b e with gaps)", x.types(0x0062000000006500L), 10);
        DUE.is("find() of ClassProbe", x.find(), 11);
        DUE.is("types([ first)", x.types(0x5B00000000000000L), 1);
        DUE.is("types(I last)", x.types(0x49L), 2);
        DUE.is("find() of [I", x.find(), 44);
    }

    private static void askEightThatStop() {
        ClassProbe x = new ClassProbe();
        DUE.is("types([, 32, J)", x.types(0x5B204AL), REFUSED);
        DUE.is("types(0) after [", x.types(0), 1);
        DUE.is("types([, I, 127, I)", x.types(0x5B497F49L), REFUSED);
        DUE.is("find() of [[I", x.find(), 84);
        DUE.is("types(255, I)", x.types(0xFF49L), REFUSED);
        DUE.is("types(0) after none", x.types(0), 0);
        DUE.is("types(-1)", x.types(-1L), REFUSED);
        DUE.is("types(128 first)", x.types(0x8049494949494949L), REFUSED);
        DUE.is("types(0) after none", x.types(0), 0);
        for (int k = 0; k < 4; k++) {
            x.types(0x5B5B5B5B5B5B5B5BL);
        }
        DUE.is("types of 5 on 32", x.types(0x5B5B5B5B5BL), 37);
        DUE.is("types of 4 on 37", x.types(0x5B5B4A5BL), ClassProbe.FULL);
        DUE.is("types(0) after FULL", x.types(0), 40);
        DUE.is("find() of 39 [ and J", x.find(), OTHER);
        DUE.is("types(0) after find", x.types(0), 0);
        for (int k = 0; k < 39; k++) {
            x.type('[');
        }
        DUE.is("types(32, I) on 39", x.types(0x2049L), REFUSED);
        DUE.is("types(I, 32) on 39", x.types(0x4920L), REFUSED);
        DUE.is("find() of 39 [ and I", x.find(), OTHER);
    }

    private static void askNames() {
        for (int t = 0; t <= 24; t++) {
            boolean primitive = t <= 8;
            String coded = "L" + NAMES[t] + ";";
            askFind(NAMES[t], primitive ? NOT_FOUND : t);
            askFind("[" + coded, primitive ? NOT_FOUND : 40 + t);
            askFind("[[" + coded, primitive ? NOT_FOUND : 80 + t);
            askFind("[[[" + coded, primitive ? NOT_FOUND : OTHER);
            askFind("[[[[[[[[" + coded, primitive ? NOT_FOUND : OTHER);
            askFind(coded, REFUSED);
            askFind("[" + NAMES[t], REFUSED);
            askFind(NAMES[t] + "[]", t > 11 ? NOT_FOUND : REFUSED);
        }
    }

    private static void askCodes() {
        String codes = "ZBCSIJFD";
        for (int t = 0; t <= 7; t++) {
            askFind(codes.substring(t, t + 1), REFUSED);
            askFind("[" + codes.charAt(t), 40 + t);
            askFind("[[" + codes.charAt(t), 80 + t);
            askFind("[[[" + codes.charAt(t), OTHER);
            askFind("[".repeat(39) + codes.charAt(t), OTHER);
        }
    }

    private static void askNotFound() {
        String[] texts = {
            "[", "[[", "[[[", "[V", "[[V", "[[[V", "[x", "[L", "[;", "[]", "[z", "[[[[[x", "ClassProbe$",
            "ClassProbe$$", "ClassProbe$2", "ClassProbe$11", "ClassProbe$mark", "ClassProbe$Mar", "ClassProbe$Marks",
            "ClassProbe$Deep", "ClassProbe$Local", "ClassProbe$Color$2", "ClassProbe$Inner.Deep", "ClassProbe$Mark;",
            "ClassProbe$[]", "ClassProbe$/", "[LClassProbe$;", "[LClassProbe$Marks;", "[[[LClassProbe$Marks;",
            "[LClassProbe$Mark;;", "[Lint;", "[[Lvoid;", "[[[Lint;", "[[[[Lvoid;", "[LClassProbe$Inner/Deep;"
        };
        for (String text : texts) {
            askFind(text, NOT_FOUND);
        }
    }

    private static void askRefused() {
        String[] texts = {
            "", "I", "V", "x", "L;", "[L;", "[[L;", "[LI", "[II", "[I;", "[L;;", "[LI;", "[[LV;", "[L[I;",
            "[L[LClassProbe$Mark;;", "ClassProb", "classprobe", "ClassProbes", "ClassProbe.Mark", "ClassProbe/Mark",
            "[LClassProbe", "[LClassProbe$Mark", "[ClassProbe$Mark;", "[ClassProbe$Mark", "[LClassProbe.Mark;",
            "java.lang.String", "[Ljava.lang.String;", "java/lang/Object", "[Ljava/lang/Object;", "Object",
            "java.lang.Objec", "java.lang.Objects", "xClassProbe$Mark", "]", "int[]", "Int", "[int"
        };
        for (String text : texts) {
            askFind(text, REFUSED);
        }
    }

    private static void askEmptyAfterwards() {
        String[] texts = {"ClassProbe", "[[[I", "[V", "I", ""};
        for (String text : texts) {
            ClassProbe x = new ClassProbe();
            typeAll(x, text);
            x.find();
            DUE.is("types(0) after find() of " + text, x.types(0), 0);
            DUE.is("find() of nothing", x.find(), REFUSED);
            typeAll(x, "[I");
            DUE.is("find() of [I after " + text, x.find(), 44);
        }
    }

    private static void askFind(String text, int want) {
        ClassProbe x = new ClassProbe();
        typeAll(x, text);
        DUE.is("find() of " + text, x.find(), want);
    }

    private static void typeAll(ClassProbe x, String text) {
        for (int i = 0; i < text.length(); i++) {
            DUE.is("type(" + text.charAt(i) + ") in " + text, x.type(text.charAt(i)), i + 1);
        }
    }
}
