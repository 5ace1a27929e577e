import java.util.List;

/** The edges of promise 13 (find), sentence by sentence. */
public final class EdgesOfFindTest {
    private static final int REFUSED = ClassProbe.REFUSED;
    private static final int NOT_FOUND = ClassProbe.NOT_FOUND;
    private static final int OTHER = ClassProbe.OTHER;
    private static final List<String> NAMES = List.of(
        "boolean", "byte", "char", "short", "int", "long", "float", "double", "void", "java.lang.Object",
        "java.lang.Runnable", "ClassProbe", "ClassProbe$Mark", "ClassProbe$Shape", "ClassProbe$Circle",
        "ClassProbe$Square", "ClassProbe$Color", "ClassProbe$Color$1", "ClassProbe$Inner", "ClassProbe$Inner$Deep",
        "ClassProbe$Note", "ClassProbe$Box", "ClassProbe$Tall", "ClassProbe$1Local", "ClassProbe$1");
    private static final String LETTERS = "ZBCSIJFDV";

    private static final Due DUE = new Due();

    public static void main(String[] args) {
        emptyText();
        emptyAfterwards();
        bracketsAlone();
        restOfOne();
        restOfTwo();
        restOfThree();
        restWithoutElement();
        beginsWithL();
        endsWithSemicolon();
        elementWithoutLevels();
        namesThatMayBeAsked();
        namesNotQuite();
        membersNotQuite();
        primitiveNames();
        oneAndTwoLevels();
        threeLevelsAndMore();
        levelsOfVoid();
        levelsOfNoType();
        allShortTexts();
        allNamesChanged();
        DUE.end();
    }

    private static void emptyText() {
        DUE.sentence("13: An ELEMENT may be asked if it is .. ; else: REFUSED (THE TEXT is empty)");
        askFind("", REFUSED);
        ClassProbe x = new ClassProbe();
        x.find();
        DUE.is("find() again", x.find(), REFUSED);
        x.types(0);
        DUE.is("find() after types(0)", x.find(), REFUSED);
        x.type(32);
        DUE.is("find() after type(32)", x.find(), REFUSED);
    }

    private static void emptyAfterwards() {
        DUE.sentence("13: Looks a type up by THE TEXT, which is empty afterwards.");
        String[] texts = {
            "ClassProbe", "[[J", "[[[J", "[V", "ClassProbe$", "[xx", "x", "", "[".repeat(40), "x".repeat(40)
        };
        for (String text : texts) {
            ClassProbe x = typed(text);
            x.find();
            DUE.is("types(0) after find() of " + text, x.types(0), 0);
            DUE.is("type([) then", x.type('['), 1);
            DUE.is("type(I) then", x.type('I'), 2);
            DUE.is("find() of [I then", x.find(), 44);
            DUE.is("find() of nothing then", x.find(), REFUSED);
        }
    }

    private static void bracketsAlone() {
        DUE.sentence("13: without an ELEMENT, the REST must have less than two characters (none); .. else NOT_FOUND");
        for (int d = 1; d <= 40; d++) {
            askFind("[".repeat(d), NOT_FOUND);
        }
    }

    private static void restOfOne() {
        DUE.sentence("13: without an ELEMENT, the REST must have less than two characters (one)");
        for (int d = 1; d <= 39; d++) {
            for (char c = 33; c <= 126; c++) {
                int t = LETTERS.indexOf(c);
                boolean found = t >= 0 && t != 8;
                askFind("[".repeat(d) + c, !found ? NOT_FOUND : d < 3 ? 40 * d + t : OTHER);
            }
        }
    }

    private static void restOfTwo() {
        DUE.sentence("13: without an ELEMENT, the REST must have less than two characters; else: REFUSED (two)");
        String[] rests = {"L;", "II", "I;", "LI", "V;", ";;", ";L", "LL", "I[", "L[", "[]", "]]", "xx"};
        for (String rest : rests) {
            for (int d = 1; d <= 4; d++) {
                // A REST does not begin with [: there that [ is a level, and the REST has one character.
                askFind("[".repeat(d) + rest, rest.charAt(0) == '[' ? NOT_FOUND : REFUSED);
            }
            askFind("[".repeat(38) + rest, rest.charAt(0) == '[' ? NOT_FOUND : REFUSED);
        }
    }

    /** With L and ; round it one character is an ELEMENT, which is no name; without them there is none. */
    private static void restOfThree() {
        DUE.sentence("13: If d is above 0 and the REST has more than two characters (three)");
        String[] rests = {"LI;", "LV;", "L;;", "LL;", "L[;", "L$;", "III", "LII", "II;", "lI;", "LI:", "int"};
        for (String rest : rests) {
            for (int d = 1; d <= 4; d++) {
                askFind("[".repeat(d) + rest, REFUSED);
            }
        }
    }

    private static void restWithoutElement() {
        DUE.sentence("13: without an ELEMENT, the REST must have less than two characters; else: REFUSED (more)");
        for (String name : NAMES) {
            askFind("[" + name, REFUSED);
            askFind("[[" + name, REFUSED);
            askFind("[[[" + name, REFUSED);
        }
    }

    private static void beginsWithL() {
        DUE.sentence("13: If .. the REST .. begins with L");
        askFind("[LClassProbe;", 51);
        String[] others = {"[lClassProbe;", "[KClassProbe;", "[MClassProbe;", "[ClassProbe;", "[xLClassProbe;",
            "[LLClassProbe;"};
        for (String text : others) {
            askFind(text, REFUSED);
        }
    }

    private static void endsWithSemicolon() {
        DUE.sentence("13: If .. the REST .. ends with ;, what is between is the ELEMENT");
        askFind("[LClassProbe$1;", 64);
        askFind("[LClassProbe$1", REFUSED);
        askFind("[LClassProbe$1:", REFUSED);
        askFind("[LClassProbe$1<", REFUSED);
        askFind("[LClassProbe$1;x", REFUSED);
        askFind("[LClassProbe$1;;", NOT_FOUND);
        askFind("[LClassProbe;;", REFUSED);
    }

    private static void elementWithoutLevels() {
        DUE.sentence("13: if d is 0 it is the REST");
        for (int t = 0; t <= 24; t++) {
            askFind(NAMES.get(t), t <= 8 ? NOT_FOUND : t);
            askFind("L" + NAMES.get(t) + ";", REFUSED);
            askFind(NAMES.get(t) + ";", t >= 12 ? NOT_FOUND : REFUSED);
            askFind("L" + NAMES.get(t), REFUSED);
        }
        for (int t = 0; t <= 8; t++) {
            askFind(LETTERS.substring(t, t + 1), REFUSED);
        }
    }

    private static void namesThatMayBeAsked() {
        DUE.sentence("13: An ELEMENT may be asked if it is the NAME of a type 0 .. 11 or begins with ClassProbe$");
        for (int t = 0; t <= 11; t++) {
            askFind(NAMES.get(t), t <= 8 ? NOT_FOUND : t);
            askFind("[L" + NAMES.get(t) + ";", t <= 8 ? NOT_FOUND : 40 + t);
        }
        askFind("ClassProbe$", NOT_FOUND);
        askFind("ClassProbe$" + "~".repeat(29), NOT_FOUND);
        askFind("[LClassProbe$;", NOT_FOUND);
        askFind("[[LClassProbe$;", NOT_FOUND);
        askFind("[[[LClassProbe$;", NOT_FOUND);
    }

    private static void namesNotQuite() {
        DUE.sentence("13: An ELEMENT may be asked if it is the NAME of a type 0 .. 11 ..; else: REFUSED");
        for (int t = 0; t <= 11; t++) {
            String name = NAMES.get(t);
            String[] others = {
                name.substring(1), name.substring(0, name.length() - 1), name + "x", "x" + name, name + ".",
                Character.toString(name.charAt(0) ^ 32) + name.substring(1)
            };
            for (String other : others) {
                askFind(other, REFUSED);
                askFind("[L" + other + ";", REFUSED);
                askFind("[[[L" + other + ";", REFUSED);
            }
        }
        String[] texts = {
            "java.lang.String", "java.lang.Record", "java.lang.Enum", "java.lang.Comparable", "java/lang/Object",
            "Object", "ClassProbe.Mark", "ClassProbe/Mark", "ClassProbe#", "ClassProbe%", "Classprobe$Mark",
            "xClassProbe$Mark", "lassProbe$Mark", "ClassProb$Mark"
        };
        for (String text : texts) {
            askFind(text, REFUSED);
            askFind("[L" + text + ";", REFUSED);
            askFind("[[[L" + text + ";", REFUSED);
        }
    }

    private static void membersNotQuite() {
        DUE.sentence("13: .. else NOT_FOUND (it begins with ClassProbe$, but is no type's NAME)");
        String[] texts = {
            "ClassProbe$mark", "ClassProbe$Mar", "ClassProbe$Marks", "ClassProbe$$Mark", "ClassProbe$0",
            "ClassProbe$2", "ClassProbe$11", "ClassProbe$1local", "ClassProbe$1Loca", "ClassProbe$1Locals",
            "ClassProbe$2Local", "ClassProbe$Local", "ClassProbe$Color$", "ClassProbe$Color$0", "ClassProbe$Color$2",
            "ClassProbe$Color$11", "ClassProbe$Inner$", "ClassProbe$Inner$Dee", "ClassProbe$Inner.Deep",
            "ClassProbe$Deep", "ClassProbe$Mark;", "ClassProbe$Mark[]", "ClassProbe$["
        };
        for (String text : texts) {
            askFind(text, NOT_FOUND);
            askFind("[L" + text + ";", NOT_FOUND);
            askFind("[[L" + text + ";", NOT_FOUND);
            askFind("[[[L" + text + ";", NOT_FOUND);
        }
    }

    private static void primitiveNames() {
        DUE.sentence("13: (PRIMITIVE ones can't be found so, but for their arrays)");
        for (int t = 0; t <= 8; t++) {
            askFind(NAMES.get(t), NOT_FOUND);
            for (int d = 1; d <= 5; d++) {
                askFind("[".repeat(d) + "L" + NAMES.get(t) + ";", NOT_FOUND);
            }
        }
        for (int t = 0; t <= 7; t++) {
            askFind("[" + LETTERS.charAt(t), 40 + t);
            askFind("[[" + LETTERS.charAt(t), 80 + t);
        }
    }

    private static void oneAndTwoLevels() {
        DUE.sentence("13: The answer is the type whose NAME THE TEXT is");
        for (int t : Numbers.allTypes()) {
            askFind(dueName(t), t <= 8 ? NOT_FOUND : t);
        }
    }

    private static String dueName(int t) {
        int plain = t % 40;
        String element = plain <= 8 ? LETTERS.substring(plain, plain + 1) : "L" + NAMES.get(plain) + ";";
        return t < 40 ? NAMES.get(t) : "[".repeat(t / 40) + element;
    }

    private static void threeLevelsAndMore() {
        DUE.sentence("13: an array of arrays of arrays, or of more, of a type but void: OTHER");
        for (int t = 0; t <= 24; t++) {
            if (t != 8) {
                String element = dueName(40 + t).substring(1);
                for (int d = 3; d + element.length() <= 40; d++) {
                    askFind("[".repeat(d) + element, OTHER);
                }
            }
        }
    }

    private static void levelsOfVoid() {
        DUE.sentence("13: .. of a type but void (of void: NOT_FOUND)");
        for (int d = 1; d <= 39; d++) {
            askFind("[".repeat(d) + "V", NOT_FOUND);
        }
        for (int d = 1; d <= 34; d++) {
            askFind("[".repeat(d) + "Lvoid;", NOT_FOUND);
        }
    }

    private static void levelsOfNoType() {
        DUE.sentence("13: an array of arrays of arrays .. of a type (of none: NOT_FOUND)");
        for (int d = 1; d <= 26; d++) {
            askFind("[".repeat(d) + "LClassProbe$x;", NOT_FOUND);
            askFind("[".repeat(d) + "x", NOT_FOUND);
            askFind("[".repeat(d) + "L", NOT_FOUND);
            askFind("[".repeat(d) + ";", NOT_FOUND);
        }
    }

    private static void allShortTexts() {
        DUE.sentence("13: all of it, for every text of up to five of these characters: [ L ; I V $");
        String letters = "[L;IV$";
        for (int length = 0; length <= 5; length++) {
            int many = (int) Math.pow(letters.length(), length);
            for (int number = 0; number < many; number++) {
                StringBuilder text = new StringBuilder();
                for (int rest = number, i = 0; i < length; i++, rest /= letters.length()) {
                    text.append(letters.charAt(rest % letters.length()));
                }
                askFind(text.toString(), dueFind(text.toString()));
            }
        }
    }

    private static void allNamesChanged() {
        DUE.sentence("13: all of it, for every type's NAME with one character left out, doubled or another");
        for (int t : Numbers.allTypes()) {
            String name = dueName(t);
            for (int i = 0; i < name.length(); i++) {
                String before = name.substring(0, i);
                String behind = name.substring(i + 1);
                String[] changed = {
                    before + behind, before + name.charAt(i) + name.charAt(i) + behind, before + "x" + behind,
                    before + "[" + behind, before + ";" + behind, before + "$" + behind, before + "." + behind
                };
                for (String text : changed) {
                    askFind(text, dueFind(text));
                }
            }
        }
    }

    /** The promise as the document tells it, in the same order. */
    private static int dueFind(String text) {
        String rest = text.replaceFirst("^\\[*", "");
        int d = text.length() - rest.length();
        boolean wrapped = d > 0 && rest.length() > 2 && rest.startsWith("L") && rest.endsWith(";");
        boolean hasElement = wrapped || d == 0;
        if (!hasElement && rest.length() >= 2) {
            return REFUSED;
        }
        String element = wrapped ? rest.substring(1, rest.length() - 1) : rest;
        if (hasElement && !NAMES.subList(0, 12).contains(element) && !element.startsWith("ClassProbe$")) {
            return REFUSED;
        }
        int t = hasElement ? NAMES.indexOf(element) : rest.isEmpty() ? -1 : LETTERS.indexOf(rest);
        boolean reachable = hasElement ? t > 8 : t >= 0 && t != 8;
        if (!reachable) {
            return NOT_FOUND;
        }
        return d > 2 ? OTHER : 40 * d + t;
    }

    private static void askFind(String text, int want) {
        ClassProbe x = typed(text);
        DUE.is("find() of " + text, x.find(), want);
        DUE.is("types(0) after find() of " + text, x.types(0), 0);
    }

    /** A bench with that text; a text too long to be typed whole would make the test ask for another one. */
    private static ClassProbe typed(String text) {
        if (text.length() > 40) {
            throw new IllegalArgumentException(text);
        }
        ClassProbe x = new ClassProbe();
        for (int i = 0; i < text.length(); i++) {
            x.type(text.charAt(i));
        }
        return x;
    }
}
