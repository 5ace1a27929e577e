/** Promises 2 (letter) and 3 (size): every text of every type, what has none, and wrong numbers. */
public final class TextsTest {
    /** Of each PLAIN type texts 0, 1, 2 and 7; a dash stands for none. */
    private static final String[][] PLAIN = {
        {"boolean", "boolean", "boolean", "public abstract final"},
        {"byte", "byte", "byte", "public abstract final"},
        {"char", "char", "char", "public abstract final"},
        {"short", "short", "short", "public abstract final"},
        {"int", "int", "int", "public abstract final"},
        {"long", "long", "long", "public abstract final"},
        {"float", "float", "float", "public abstract final"},
        {"double", "double", "double", "public abstract final"},
        {"void", "void", "void", "public abstract final"},
        {"java.lang.Object", "Object", "java.lang.Object", "public"},
        {"java.lang.Runnable", "Runnable", "java.lang.Runnable", "public abstract interface"},
        {"ClassProbe", "ClassProbe", "ClassProbe", "public final"},
        {"ClassProbe$Mark", "Mark", "ClassProbe.Mark", "abstract static interface"},
        {"ClassProbe$Shape", "Shape", "ClassProbe.Shape", "abstract static interface"},
        {"ClassProbe$Circle", "Circle", "ClassProbe.Circle", "static final"},
        {"ClassProbe$Square", "Square", "ClassProbe.Square", "static final"},
        {"ClassProbe$Color", "Color", "ClassProbe.Color", "static"},
        {"ClassProbe$Color$1", "", "-", "final"},
        {"ClassProbe$Inner", "Inner", "ClassProbe.Inner", "private"},
        {"ClassProbe$Inner$Deep", "Deep", "ClassProbe.Inner.Deep", "protected"},
        {"ClassProbe$Note", "Note", "ClassProbe.Note", "abstract static interface"},
        {"ClassProbe$Box", "Box", "ClassProbe.Box", "abstract static"},
        {"ClassProbe$Tall", "Tall", "ClassProbe.Tall", "static"},
        {"ClassProbe$1Local", "Local", "-", ""},
        {"ClassProbe$1", "", "-", ""},
    };
    private static final String LETTERS = "ZBCSIJFDV";

    private static final Due DUE = new Due();

    public static void main(String[] args) {
        for (int t : Numbers.allTypes()) {
            for (int which = 0; which <= 7; which++) {
                askText(t, which, dueText(t, which));
            }
        }
        askWrittenOut();
        askWrongNumbers();
        DUE.end();
    }

    private static String dueText(int t, int which) {
        int levels = t / 40;
        String[] plain = PLAIN[t % 40];
        String brackets = "[]".repeat(levels);
        switch (which) {
            case 0:
                return dueName(t);
            case 1:
                return plain[1] + brackets;
            case 2:
                return plain[2].equals("-") ? "-" : plain[2] + brackets;
            case 3:
                return plain[0] + brackets;
            case 4:
                return t % 40 <= 10 ? "java.lang" : "";
            case 5:
                return dueKind(t) + dueName(t);
            case 6:
                return "[".repeat(levels) + dueDescriptor(t % 40).replace('.', '/');
            default:
                return levels == 0 ? plain[3] : dueArrayModifiers(t % 40);
        }
    }

    private static String dueName(int t) {
        return t < 40 ? PLAIN[t][0] : "[".repeat(t / 40) + dueDescriptor(t % 40);
    }

    private static String dueDescriptor(int plain) {
        return plain <= 8 ? LETTERS.substring(plain, plain + 1) : "L" + PLAIN[plain][0] + ";";
    }

    private static String dueKind(int t) {
        if (Numbers.isAmong(t, 10, 12, 13, 20)) {
            return "interface ";
        }
        return t <= 8 ? "" : "class ";
    }

    private static String dueArrayModifiers(int plain) {
        if (plain <= 11) {
            return "public abstract final";
        }
        if (plain == 18) {
            return "private abstract final";
        }
        return plain == 19 ? "protected abstract final" : "abstract final";
    }

    /** Texts of arrays as whole words, so that they do not hang on the rules that dueText joins them by. */
    private static void askWrittenOut() {
        askText(40, 0, "[Z");
        askText(85, 0, "[[J");
        askText(49, 0, "[Ljava.lang.Object;");
        askText(99, 0, "[[LClassProbe$Inner$Deep;");
        askText(104, 1, "[][]");
        askText(103, 1, "Local[][]");
        askText(89, 2, "java.lang.Object[][]");
        askText(59, 2, "ClassProbe.Inner.Deep[]");
        askText(57, 2, "-");
        askText(103, 2, "-");
        askText(97, 3, "ClassProbe$Color$1[][]");
        askText(90, 4, "java.lang");
        askText(92, 4, "");
        askText(20, 5, "interface ClassProbe$Note");
        askText(60, 5, "class [LClassProbe$Note;");
        askText(87, 5, "class [[D");
        askText(8, 6, "V");
        askText(10, 6, "Ljava/lang/Runnable;");
        askText(90, 6, "[[Ljava/lang/Runnable;");
        askText(24, 6, "LClassProbe$1;");
        askText(98, 7, "private abstract final");
    }

    private static void askText(int t, int which, String text) {
        ClassProbe x = new ClassProbe();
        String call = "(" + t + ", " + which;
        boolean none = text.equals("-");
        DUE.is("size" + call + ")", x.size(t, which), none ? ClassProbe.NULL : text.length());
        int[] outside = {Integer.MIN_VALUE, -1, text.length(), text.length() + 1, 40, 1000, Integer.MAX_VALUE};
        for (int i : outside) {
            if (i < 0 || i >= text.length()) {
                DUE.is("letter" + call + ", " + i + ")", x.letter(t, which, i), none ? ClassProbe.NULL : 0);
            }
        }
        for (int i = 0; i < text.length(); i++) {
            DUE.is("letter" + call + ", " + i + ")", x.letter(t, which, i), none ? ClassProbe.NULL : text.charAt(i));
        }
    }

    private static void askWrongNumbers() {
        for (int t : Numbers.NO_TYPES) {
            ClassProbe x = new ClassProbe();
            for (int which = -1; which <= 8; which++) {
                DUE.is("size(" + t + ", " + which + ")", x.size(t, which), ClassProbe.REFUSED);
                DUE.is("letter(" + t + ", " + which + ", 0)", x.letter(t, which, 0), ClassProbe.REFUSED);
                DUE.is("letter(" + t + ", " + which + ", -1)", x.letter(t, which, -1), ClassProbe.REFUSED);
            }
        }
        int[] noTexts = {-1, 8, 9, 100, Integer.MIN_VALUE, Integer.MAX_VALUE};
        for (int which : noTexts) {
            ClassProbe x = new ClassProbe();
            for (int t : Numbers.allTypes()) {
                DUE.is("size(" + t + ", " + which + ")", x.size(t, which), ClassProbe.REFUSED);
                DUE.is("letter(" + t + ", " + which + ", 0)", x.letter(t, which, 0), ClassProbe.REFUSED);
            }
        }
    }
}
