/** The edges of promises 1 (an empty TEXT), 11 (type) and 12 (types), sentence by sentence. */
public final class EdgesOfTypingTest {
    private static final int REFUSED = ClassProbe.REFUSED;
    private static final int FULL = ClassProbe.FULL;
    private static final int NOT_FOUND = ClassProbe.NOT_FOUND;
    private static final int OTHER = ClassProbe.OTHER;
    /** A text of 40 characters that is found as OTHER, but REFUSED with one less or one more. */
    private static final String FORTY = "[".repeat(17) + "LClassProbe$Inner$Deep;";
    private static final long EIGHT = 0x4949494949494949L;

    private static final Due DUE = new Due();

    public static void main(String[] args) {
        noneAtFirst();
        everyCharacter();
        charactersAreKept();
        lengths();
        fullAtForty();
        fullKeepsTheText();
        wrongCharactersWhenFull();
        highestFirst();
        zerosLeftOut();
        nothingButZeros();
        everyByteInEveryPlace();
        smallestAndLargestLong();
        fullInTheMiddle();
        exactlyForty();
        firstOfTwoReasons();
        thoseBeforeItStay();
        lengthOfTheWholeText();
        DUE.end();
    }

    private static void noneAtFirst() {
        DUE.sentence("1 and Terms: THE TEXT has .. none at first.");
        DUE.is("types(0) at first", new ClassProbe().types(0), 0);
        DUE.is("find() at first", new ClassProbe().find(), REFUSED);
        DUE.is("type(33) at first", new ClassProbe().type(33), 1);
        DUE.is("types of eight at first", new ClassProbe().types(EIGHT), 8);
    }

    private static void everyCharacter() {
        DUE.sentence("11: Adds a character (33 .. 126, else REFUSED)");
        for (int c = -400; c <= 700; c++) {
            askCharacter(c);
        }
        for (int c : Numbers.outside(33, 126)) {
            askCharacter(c);
        }
        int[] wrapped = {65536 + 73, 1 << 24 | 73, -256 + 73, -65536 + 73, Integer.MIN_VALUE + 73};
        for (int c : wrapped) {
            askCharacter(c);
        }
    }

    private static void askCharacter(int c) {
        boolean good = Numbers.within(c, 33, 126);
        ClassProbe x = new ClassProbe();
        DUE.is("type(" + c + ")", x.type(c), good ? 1 : REFUSED);
        DUE.is("types(0) after type(" + c + ")", x.types(0), good ? 1 : 0);
        ClassProbe y = typed("[");
        DUE.is("type(" + c + ") behind [", y.type(c), good ? 2 : REFUSED);
        DUE.is("type(I) behind that", y.type('I'), good ? 3 : 2);
    }

    /** What was typed is seen by find alone: behind [ a letter is a type's, behind ClassProbe$ a 1 is. */
    private static void charactersAreKept() {
        DUE.sentence("11: Adds a character .. to THE TEXT");
        for (int c = 33; c <= 126; c++) {
            int letter = "ZBCSIJFD".indexOf(c);
            DUE.is("find() of [ and " + (char) c, typed("[" + (char) c).find(), letter < 0 ? NOT_FOUND : 40 + letter);
            DUE.is("find() of ClassProbe$ and " + (char) c, typed("ClassProbe$" + (char) c).find(),
                c == '1' ? 24 : NOT_FOUND);
        }
    }

    private static void lengths() {
        DUE.sentence("11: Answers its length.");
        ClassProbe x = new ClassProbe();
        for (int i = 0; i < 40; i++) {
            DUE.is("type as number " + (i + 1), x.type(33 + i), i + 1);
        }
    }

    private static void fullAtForty() {
        DUE.sentence("11 and Terms: THE TEXT has at most 40 characters .. it has 40: FULL.");
        for (int length = 0; length <= 40; length++) {
            ClassProbe x = typed("x".repeat(length));
            DUE.is("type(33) with " + length, x.type(33), length < 40 ? length + 1 : FULL);
            DUE.is("types(0) then", x.types(0), Math.min(length + 1, 40));
        }
        DUE.is("type(33) with 39", typed("x".repeat(39)).type(33), 40);
        DUE.is("type(126) with 40", typed("x".repeat(40)).type(126), FULL);
    }

    private static void fullKeepsTheText() {
        DUE.sentence("11 and Terms: FULL changes nothing");
        ClassProbe x = typed(FORTY);
        for (int c = 33; c <= 126; c++) {
            DUE.is("type(" + c + ") with 40", x.type(c), FULL);
        }
        DUE.is("types(0) then", x.types(0), 40);
        DUE.is("find() then", x.find(), OTHER);
        DUE.is("type(33) after find", x.type(33), 1);
    }

    /** The document does not say which goes first; REFUSED is named first. */
    private static void wrongCharactersWhenFull() {
        DUE.sentence("11: 33 .. 126, else REFUSED (with 39 and with 40)");
        for (int c : Numbers.outside(33, 126)) {
            ClassProbe x = typed(FORTY.substring(0, 39));
            DUE.is("type(" + c + ") with 39", x.type(c), REFUSED);
            DUE.is("type(;) then", x.type(';'), 40);
            DUE.is("type(" + c + ") with 40", x.type(c), REFUSED);
            DUE.is("find() then", x.find(), OTHER);
        }
    }

    private static void highestFirst() {
        DUE.sentence("12: The eight bytes of the number, highest first");
        DUE.is("find() of [[[[[[[I", eightTyped("[[[[[[[I").find(), OTHER);
        DUE.is("find() of I[[[[[[[", eightTyped("I[[[[[[[").find(), REFUSED);
        DUE.is("find() of [I", eightTyped("\0\0[\0\0\0\0I").find(), 44);
        DUE.is("find() of I[", eightTyped("\0\0I\0\0\0\0[").find(), REFUSED);
        ClassProbe x = eightTyped("ClassPro");
        x.types(packed("\0\0\0\0be$1"));
        DUE.is("find() of ClassProbe$1", x.find(), 24);
    }

    private static void zerosLeftOut() {
        DUE.sentence("12: those that are 0 left out");
        for (int mask = 0; mask < 256; mask++) {
            long eight = 0;
            for (int place = 0; place < 8; place++) {
                eight = eight << 8 | ((mask >> place & 1) == 1 ? '[' : 0);
            }
            int count = Integer.bitCount(mask);
            ClassProbe x = new ClassProbe();
            DUE.is("types(" + eight + ")", x.types(eight), count);
            DUE.is("type(I) then", x.type('I'), count + 1);
            DUE.is("find() then", x.find(), count == 0 ? REFUSED : count < 3 ? 40 * count + 4 : OTHER);
        }
    }

    private static void nothingButZeros() {
        DUE.sentence("12: those that are 0 left out (all of them)");
        for (int length = 0; length <= 40; length++) {
            ClassProbe x = typed("x".repeat(length));
            DUE.is("types(0) with " + length, x.types(0), length);
            DUE.is("types(0) again", x.types(0), length);
        }
    }

    private static void everyByteInEveryPlace() {
        DUE.sentence("12: typed one after another; at the first that is REFUSED .. this stops, those before it stay");
        for (int place = 0; place < 8; place++) {
            int shift = 56 - 8 * place;
            for (int c = 0; c <= 255; c++) {
                long eight = (EIGHT & ~(255L << shift)) | (long) c << shift;
                boolean good = Numbers.within(c, 33, 126);
                ClassProbe x = new ClassProbe();
                DUE.is("types(" + eight + ")", x.types(eight), good ? 8 : c == 0 ? 7 : REFUSED);
                DUE.is("types(0) then", x.types(0), good ? 8 : c == 0 ? 7 : place);
            }
        }
    }

    private static void smallestAndLargestLong() {
        DUE.sentence("12: at the first that is REFUSED (the smallest and the largest long)");
        long[] numbers = {
            Long.MIN_VALUE, Long.MIN_VALUE + 73, Long.MAX_VALUE, -1L, -2L, 1L, 32L, 127L, 255L, 0x8000000000000049L,
            0xFF00000000000000L, 0x0100000000000000L, 0x2000000000000000L, 0x7F00000000000000L
        };
        for (long eight : numbers) {
            ClassProbe x = new ClassProbe();
            DUE.is("types(" + eight + ")", x.types(eight), REFUSED);
            DUE.is("types(0) then", x.types(0), 0);
        }
        DUE.is("types of 33 first", new ClassProbe().types(0x2100000000000000L), 1);
        DUE.is("types of 126 first", new ClassProbe().types(0x7E00000000000000L), 1);
        DUE.is("types(33)", new ClassProbe().types(33L), 1);
        DUE.is("types(126)", new ClassProbe().types(126L), 1);
    }

    private static void fullInTheMiddle() {
        DUE.sentence("12: at the first that is .. FULL this stops, those before it stay, and that is the answer.");
        for (int length = 30; length <= 40; length++) {
            for (int many = 1; many <= 8; many++) {
                long eight = EIGHT >>> (8 * (8 - many));
                ClassProbe x = typed("x".repeat(length));
                boolean room = length + many <= 40;
                DUE.is("types of " + many + " with " + length, x.types(eight), room ? length + many : FULL);
                DUE.is("types(0) then", x.types(0), Math.min(length + many, 40));
            }
        }
        ClassProbe x = typed(FORTY.substring(0, 37));
        DUE.is("types of 4 with 37", x.types(packed("\0e\0p;\0\0x")), FULL);
        DUE.is("find() then", x.find(), OTHER);
    }

    private static void exactlyForty() {
        DUE.sentence("12: Answers THE TEXT's length (40, with no character too many)");
        DUE.is("types of 8 with 32", typed("x".repeat(32)).types(EIGHT), 40);
        for (int place = 0; place < 8; place++) {
            long one = 73L << (8 * place);
            DUE.is("types(" + one + ") with 39", typed("x".repeat(39)).types(one), 40);
            DUE.is("types(" + one + ") with 40", typed("x".repeat(40)).types(one), FULL);
        }
        DUE.is("types(0) with 40", typed("x".repeat(40)).types(0), 40);
    }

    private static void firstOfTwoReasons() {
        DUE.sentence("12: at the first that is REFUSED or FULL this stops .. and that is the answer.");
        askReason(37, "II II", REFUSED, 39);
        askReason(38, "II II", REFUSED, 40);
        askReason(38, "III I", FULL, 40);
        askReason(39, "II I", FULL, 40);
        askReason(39, " II", REFUSED, 39);
        askReason(37, "\u007fIIII", REFUSED, 37);
        askReason(37, "I\u0001IIII", REFUSED, 38);
    }

    private static void askReason(int start, String text, int answer, int length) {
        ClassProbe x = typed("x".repeat(start));
        String call = "types of " + text + " with " + start;
        DUE.is(call, x.types(packed(text)), answer);
        DUE.is("types(0) after " + call, x.types(0), length);
    }

    private static void thoseBeforeItStay() {
        DUE.sentence("12: those before it stay (and those behind it are not typed)");
        ClassProbe x = new ClassProbe();
        DUE.is("types of [[, 32 and [I", x.types(packed("[[ [I")), REFUSED);
        DUE.is("types of J, 127 and J", x.types(packed("J\u007fJ")), REFUSED);
        DUE.is("types(0) then", x.types(0), 3);
        DUE.is("find() of [[J", x.find(), 85);
    }

    private static void lengthOfTheWholeText() {
        DUE.sentence("12: Answers THE TEXT's length.");
        ClassProbe x = new ClassProbe();
        for (int many = 1; many <= 5; many++) {
            DUE.is("types of eight, " + many, x.types(EIGHT), 8 * many);
        }
        DUE.is("types of eight, 6", x.types(EIGHT), FULL);
        DUE.is("find()", x.find(), REFUSED);
        DUE.is("types of eight after find", x.types(EIGHT), 8);
        DUE.is("type then", x.type(73), 9);
        DUE.is("types of one then", x.types(73), 10);
    }

    private static ClassProbe typed(String text) {
        ClassProbe x = new ClassProbe();
        for (int i = 0; i < text.length(); i++) {
            x.type(text.charAt(i));
        }
        return x;
    }

    private static ClassProbe eightTyped(String text) {
        ClassProbe x = new ClassProbe();
        x.types(packed(text));
        return x;
    }

    /** Up to eight characters as a number, the last one lowest. */
    private static long packed(String text) {
        long eight = 0;
        for (int i = 0; i < text.length(); i++) {
            eight = eight << 8 | text.charAt(i);
        }
        return eight;
    }
}
