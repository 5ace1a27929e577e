import java.util.function.ToIntFunction;

/** "A refused call (an answer below 0) changes nothing but what is said.", call by call. */
public final class RefusedCallsTest {
    private static final int REFUSED = ClassProbe.REFUSED;
    private static final int NULL = ClassProbe.NULL;
    private static final int OTHER = ClassProbe.OTHER;
    private static final int NOT_FOUND = ClassProbe.NOT_FOUND;
    private static final int CAST = ClassProbe.CAST;
    private static final int FULL = ClassProbe.FULL;
    /** What the SLOTS hold before each call: things of every sort, some alike, and null twice. */
    private static final int[] THINGS = {14, -1, 17, 49, 14, 16, -1, 104};
    /** A text that is found if a ; is added to it, and nothing else. */
    private static final String TEXT = "[[LClassProbe$Box";
    private static final int[] NO_TYPES = {Integer.MIN_VALUE, -2, 25, 39, 48, 65, 79, 88, 105, Integer.MAX_VALUE};

    private static final Due DUE = new Due();

    public static void main(String[] args) {
        refusedTexts();
        refusedNumbers();
        refusedRelations();
        refusedCharacters();
        refusedEights();
        refusedWhenFull();
        refusedFinds();
        refusedPuts();
        refusedSlots();
        falseAnswers();
        DUE.end();
    }

    private static void refusedTexts() {
        DUE.sentence("2, 3: a refused letter or size changes nothing");
        for (int no : NO_TYPES) {
            ask("letter(" + no + ", 0, 0)", x -> x.letter(no, 0, 0), REFUSED);
            ask("size(" + no + ", 0)", x -> x.size(no, 0), REFUSED);
        }
        for (int which : Numbers.outside(0, 7)) {
            ask("letter(9, " + which + ", 0)", x -> x.letter(9, which, 0), REFUSED);
            ask("size(9, " + which + ")", x -> x.size(9, which), REFUSED);
        }
        ask("letter(17, 2, 0)", x -> x.letter(17, 2, 0), NULL);
        ask("letter(104, 2, -1)", x -> x.letter(104, 2, -1), NULL);
        ask("size(23, 2)", x -> x.size(23, 2), NULL);
        ask("size(64, 2)", x -> x.size(64, 2), NULL);
        askAfter("letter(9, 0, -1)", x -> x.letter(9, 0, -1), 0);
        askAfter("size(99, 5)", x -> x.size(99, 5), "class [[LClassProbe$Inner$Deep;".length());
    }

    private static void refusedNumbers() {
        DUE.sentence("5: a refused number changes nothing");
        for (int no : NO_TYPES) {
            ask("number(" + no + ", 0)", x -> x.number(no, 0), REFUSED);
        }
        for (int what : Numbers.outside(0, 7)) {
            ask("number(14, " + what + ")", x -> x.number(14, what), REFUSED);
        }
        ask("number(9, 7)", x -> x.number(9, 7), REFUSED);
        ask("number(10, 7)", x -> x.number(10, 7), REFUSED);
        ask("number(15, 3)", x -> x.number(15, 3), NULL);
        ask("number(15, 4)", x -> x.number(15, 4), NULL);
        ask("number(15, 5)", x -> x.number(15, 5), NULL);
    }

    private static void refusedRelations() {
        DUE.sentence("6, 7, 9: a refused related, interfaceOf or asSubclass changes nothing");
        for (int no : NO_TYPES) {
            ask("related(" + no + ", 0)", x -> x.related(no, 0), REFUSED);
            ask("interfaceOf(" + no + ", 0)", x -> x.interfaceOf(no, 0), REFUSED);
            ask("asSubclass(" + no + ", 9)", x -> x.asSubclass(no, 9), REFUSED);
            ask("asSubclass(9, " + no + ")", x -> x.asSubclass(9, no), REFUSED);
        }
        for (int what : Numbers.outside(0, 5)) {
            ask("related(14, " + what + ")", x -> x.related(14, what), REFUSED);
        }
        ask("related(9, 0)", x -> x.related(9, 0), NULL);
        ask("related(14, 0)", x -> x.related(14, 0), OTHER);
        ask("related(8, 5)", x -> x.related(8, 5), NULL);
        ask("related(80, 5)", x -> x.related(80, 5), OTHER);
        ask("interfaceOf(15, -1)", x -> x.interfaceOf(15, -1), NULL);
        ask("interfaceOf(15, 2)", x -> x.interfaceOf(15, 2), NULL);
        ask("interfaceOf(40, 1)", x -> x.interfaceOf(40, 1), OTHER);
        ask("asSubclass(9, 14)", x -> x.asSubclass(9, 14), CAST);
        ask("asSubclass(44, 49)", x -> x.asSubclass(44, 49), CAST);
    }

    private static void refusedCharacters() {
        DUE.sentence("11: a refused type changes nothing");
        for (int c : Numbers.outside(33, 126)) {
            ask("type(" + c + ")", x -> x.type(c), REFUSED);
        }
    }

    /** What is said here is that the bytes before the refused one stay. */
    private static void refusedEights() {
        DUE.sentence("12: a refused types changes nothing but THE TEXT, by the bytes before");
        long[] atOnce = {
            1L, 32L, 127L, 255L, -1L, Long.MIN_VALUE, Long.MAX_VALUE, 0x200000000000003BL, 0x0000007F3B3B3B3BL
        };
        for (long eight : atOnce) {
            ask("types(" + eight + ")", x -> x.types(eight), REFUSED);
        }
        ClassProbe x = bench(TEXT);
        DUE.is("types of ; and 32", x.types(0x3B20L), REFUSED);
        askSlots(x, "types of ; and 32");
        DUE.is("types(0) then", x.types(0), TEXT.length() + 1);
        DUE.is("find() then", x.find(), 101);
    }

    private static void refusedWhenFull() {
        DUE.sentence("11, 12: a type or types that is FULL changes nothing (but by the bytes before)");
        String forty = "[".repeat(22) + TEXT + ";";
        for (int left = 0; left <= 3; left++) {
            ClassProbe x = bench(forty.substring(0, 40 - left));
            long eight = 0;
            for (int i = 40 - left; i < 40; i++) {
                eight = eight << 8 | forty.charAt(i);
            }
            String call = "types of " + (left + 2) + " with " + (40 - left);
            DUE.is(call, x.types(eight << 16 | 0x4949), FULL);
            DUE.is("type(I) after " + call, x.type('I'), FULL);
            askSlots(x, call);
            DUE.is("types(0) after " + call, x.types(0), 40);
            DUE.is("find() after " + call, x.find(), OTHER);
        }
    }

    /** What is said here is that THE TEXT is empty afterwards. */
    private static void refusedFinds() {
        DUE.sentence("13: a refused find changes nothing but THE TEXT, which is empty");
        String[] texts = {"", "x", "[xx", "ClassProbe$", "[V", "[", "[[[I", "[[[LClassProbe;"};
        int[] answers = {REFUSED, REFUSED, REFUSED, NOT_FOUND, NOT_FOUND, NOT_FOUND, OTHER, OTHER};
        for (int k = 0; k < texts.length; k++) {
            ClassProbe x = bench(texts[k]);
            DUE.is("find() of " + texts[k], x.find(), answers[k]);
            askSlots(x, "find() of " + texts[k]);
            DUE.is("types(0) after find() of " + texts[k], x.types(0), 0);
        }
    }

    private static void refusedPuts() {
        DUE.sentence("14: a refused put changes nothing");
        int[] without = {0, 8, 10, 12, 13, 20, 21};
        for (int slot = 0; slot <= 7; slot++) {
            int here = slot;
            for (int t : without) {
                ask("put(" + here + ", " + t + ")", x -> x.put(here, t), NULL);
            }
            for (int no : NO_TYPES) {
                ask("put(" + here + ", " + no + ")", x -> x.put(here, no), REFUSED);
            }
        }
        int[] types = {-2, -1, 0, 9, 14, 25, 104};
        for (int no : Numbers.outside(0, 7)) {
            for (int t : types) {
                ask("put(" + no + ", " + t + ")", x -> x.put(no, t), REFUSED);
            }
        }
    }

    private static void refusedSlots() {
        DUE.sentence("15, 17, 18: a refused typeOf, cast or light changes nothing");
        for (int no : Numbers.outside(0, 7)) {
            ask("typeOf(" + no + ")", x -> x.typeOf(no), REFUSED);
            ask("light(" + no + ")", x -> x.light(no), REFUSED);
            ask("cast(" + no + ", 9)", x -> x.cast(no, 9), REFUSED);
        }
        for (int no : NO_TYPES) {
            ask("cast(0, " + no + ")", x -> x.cast(0, no), REFUSED);
            ask("cast(1, " + no + ")", x -> x.cast(1, no), REFUSED);
        }
        ask("typeOf(1)", x -> x.typeOf(1), NULL);
        ask("light(1)", x -> x.light(1), NULL);
        ask("light(3)", x -> x.light(3), OTHER);
        ask("cast(0, 15)", x -> x.cast(0, 15), CAST);
        ask("cast(3, 4)", x -> x.cast(3, 4), CAST);
    }

    /** A false that stands for a wrong number is no answer below 0, but it is a question and changes nothing either. */
    private static void falseAnswers() {
        DUE.sentence("4, 8, 10, 16, 19: false for numbers out of range changes nothing");
        askAfter("flag(25, 0)", x -> x.flag(25, 0) ? 1 : 0, 0);
        askAfter("flag(9, 11)", x -> x.flag(9, 11) ? 1 : 0, 0);
        askAfter("goesInto(9, 48)", x -> x.goesInto(9, 48) ? 1 : 0, 0);
        askAfter("nestmates(-1, -1)", x -> x.nestmates(-1, -1) ? 1 : 0, 0);
        askAfter("isOf(8, 9)", x -> x.isOf(8, 9) ? 1 : 0, 0);
        askAfter("isOf(0, 25)", x -> x.isOf(0, 25) ? 1 : 0, 0);
        askAfter("alike(-1, 0)", x -> x.alike(-1, 0) ? 1 : 0, 0);
        askAfter("alike(8, 8)", x -> x.alike(8, 8) ? 1 : 0, 0);
    }

    /** A refused call, twice, and that nothing has changed. */
    private static void ask(String call, ToIntFunction<ClassProbe> made, int want) {
        askAfter(call, made, want);
        ClassProbe x = new ClassProbe();
        made.applyAsInt(x);
        for (int slot = 0; slot <= 7; slot++) {
            DUE.is("typeOf(" + slot + ") of a new object after " + call, x.typeOf(slot), NULL);
        }
        DUE.is("types(0) of a new object after " + call, x.types(0), 0);
    }

    private static void askAfter(String call, ToIntFunction<ClassProbe> made, int want) {
        ClassProbe x = bench(TEXT);
        DUE.is(call, made.applyAsInt(x), want);
        DUE.is(call + " again", made.applyAsInt(x), want);
        askSlots(x, call);
        DUE.is("types(0) after " + call, x.types(0), TEXT.length());
        DUE.is("type(;) after " + call, x.type(';'), TEXT.length() + 1);
        DUE.is("find() after " + call, x.find(), 101);
    }

    private static void askSlots(ClassProbe x, String call) {
        for (int a = 0; a <= 7; a++) {
            int t = THINGS[a];
            DUE.is("typeOf(" + a + ") after " + call, x.typeOf(a), t == -1 ? NULL : t);
            int light = t == -1 ? NULL : t == 14 ? 114 : t == 16 ? 1 : t == 17 ? 12 : OTHER;
            DUE.is("light(" + a + ") after " + call, x.light(a), light);
            for (int b = 0; b <= 7; b++) {
                DUE.is("alike(" + a + ", " + b + ") after " + call, x.alike(a, b), t == THINGS[b]);
            }
        }
    }

    private static ClassProbe bench(String text) {
        ClassProbe x = new ClassProbe();
        for (int slot = 0; slot <= 7; slot++) {
            x.put(slot, THINGS[slot]);
        }
        for (int i = 0; i < text.length(); i++) {
            x.type(text.charAt(i));
        }
        return x;
    }
}
