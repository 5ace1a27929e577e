import java.util.ArrayList;
import java.util.List;
import java.util.Random;

/**
 * The first line of the document: the bench tells what class objects tell. Every call is asked of it and of
 * ClassObjects, which asks real class objects, in full and in long mixed runs.
 */
public final class ClassObjectsTest {
    private static final String FIRST_LINE = "A bench of types of every sort, and all that their class objects tell: ";
    private static final int RUNS = 250;
    private static final int CALLS = 512;
    /** Numbers from below the types to above them. */
    private static final int LOWEST = -3;
    private static final int HIGHEST = 130;

    private static final Due DUE = new Due();

    public static void main(String[] args) {
        names();
        modifiersAndTheirLike();
        nesting();
        whatGoesIntoWhat();
        lookingUpByName();
        thingsInSlots();
        mixedRuns();
        DUE.end();
    }

    private static void names() {
        DUE.sentence(FIRST_LINE + "names");
        ClassObjects real = new ClassObjects();
        for (int t = LOWEST; t <= HIGHEST; t++) {
            for (int which = -1; which <= 8; which++) {
                ClassProbe x = new ClassProbe();
                String text = "(" + t + ", " + which;
                DUE.is("size" + text + ")", x.size(t, which), real.size(t, which));
                for (int i = -2; i <= 45; i++) {
                    DUE.is("letter" + text + ", " + i + ")", x.letter(t, which, i), real.letter(t, which, i));
                }
            }
        }
    }

    private static void modifiersAndTheirLike() {
        DUE.sentence(FIRST_LINE + "modifiers");
        ClassObjects real = new ClassObjects();
        for (int t = LOWEST; t <= HIGHEST; t++) {
            ClassProbe x = new ClassProbe();
            for (int what = -1; what <= 11; what++) {
                String asked = "(" + t + ", " + what + ")";
                DUE.is("flag" + asked, x.flag(t, what), real.flag(t, what));
                DUE.is("number" + asked, x.number(t, what), real.number(t, what));
            }
        }
    }

    private static void nesting() {
        DUE.sentence(FIRST_LINE + "what they are nested in and with");
        ClassObjects real = new ClassObjects();
        for (int t = LOWEST; t <= HIGHEST; t++) {
            ClassProbe x = new ClassProbe();
            for (int what = -1; what <= 6; what++) {
                DUE.is("related(" + t + ", " + what + ")", x.related(t, what), real.related(t, what));
            }
            for (int u = LOWEST; u <= HIGHEST; u++) {
                DUE.is("nestmates(" + u + ", " + t + ")", x.nestmates(u, t), real.nestmates(u, t));
            }
        }
    }

    private static void whatGoesIntoWhat() {
        DUE.sentence(FIRST_LINE + "what goes into what");
        ClassObjects real = new ClassObjects();
        for (int t = LOWEST; t <= HIGHEST; t++) {
            ClassProbe x = new ClassProbe();
            for (int k = -1; k <= 3; k++) {
                DUE.is("interfaceOf(" + t + ", " + k + ")", x.interfaceOf(t, k), real.interfaceOf(t, k));
            }
            for (int u = LOWEST; u <= HIGHEST; u++) {
                String pair = "(" + u + ", " + t + ")";
                DUE.is("goesInto" + pair, x.goesInto(u, t), real.goesInto(u, t));
                DUE.is("asSubclass" + pair, x.asSubclass(u, t), real.asSubclass(u, t));
            }
        }
    }

    private static void lookingUpByName() {
        DUE.sentence(FIRST_LINE + "looking them up by name");
        ClassObjects real = new ClassObjects();
        for (String text : texts()) {
            ClassProbe x = new ClassProbe();
            for (int i = 0; i < text.length(); i++) {
                DUE.is("type as number " + (i + 1), x.type(text.charAt(i)), real.type(text.charAt(i)));
            }
            DUE.is("find() of " + text, x.find(), real.find());
        }
    }

    private static void thingsInSlots() {
        DUE.sentence(FIRST_LINE + "and things of them in slots");
        for (int thing = LOWEST; thing <= HIGHEST; thing++) {
            ClassObjects real = new ClassObjects();
            ClassProbe x = new ClassProbe();
            for (int slot = -1; slot <= 8; slot += 3) {
                DUE.is("put(" + slot + ", " + thing + ")", x.put(slot, thing), real.put(slot, thing));
            }
            for (int t = LOWEST; t <= HIGHEST; t++) {
                String asked = "(a thing of " + thing + ", " + t + ")";
                DUE.is("isOf" + asked, x.isOf(2, t), real.isOf(2, t));
                DUE.is("cast" + asked, x.cast(2, t), real.cast(2, t));
            }
            for (int slot = -1; slot <= 8; slot++) {
                DUE.is("typeOf(" + slot + ") of " + thing, x.typeOf(slot), real.typeOf(slot));
                DUE.is("light(" + slot + ") of " + thing, x.light(slot), real.light(slot));
                for (int b = -1; b <= 8; b++) {
                    DUE.is("alike(" + slot + ", " + b + ") of " + thing, x.alike(slot, b), real.alike(slot, b));
                }
            }
        }
    }

    /** Every type's name, with up to four levels of array round it, and texts near to these. */
    private static List<String> texts() {
        List<String> all = new ArrayList<>(List.of("", "[", "[[", "[V", "[L", "[L;", "[;", "[LI;", "I", "[II",
            "ClassProbe$", "ClassProbe$2", "ClassProbe$Mark;", "ClassProbe$Deep", "ClassProbe$Inner.Deep",
            "ClassProbe.Mark", "java.lang.String", "java/lang/Object", "[Ljava/lang/Object;", "[[[[[[[[[[[[[[[[I"));
        for (char c = 33; c <= 126; c++) {
            all.add("[" + c);
        }
        ClassObjects real = new ClassObjects();
        for (int t : Numbers.allTypes()) {
            StringBuilder name = new StringBuilder();
            for (int i = 0; i < real.size(t, 0); i++) {
                name.append((char) real.letter(t, 0, i));
            }
            all.add(name.toString());
            all.add("[" + name);
            all.add("[[" + name);
            all.add("[L" + name + ";");
            all.add(name + "x");
            all.add(name.substring(1));
            all.add(name.substring(0, name.length() - 1));
        }
        return all;
    }

    /** Runs of as many calls as one object is used for, so that what a call leaves behind is met by every other. */
    private static void mixedRuns() {
        DUE.sentence(FIRST_LINE + "all of it, in mixed runs");
        List<String> texts = texts();
        for (int run = 0; run < RUNS; run++) {
            Random random = new Random(run);
            ClassProbe x = new ClassProbe();
            ClassObjects real = new ClassObjects();
            int calls = 0;
            while (calls < CALLS) {
                if (random.nextInt(12) == 0) {
                    calls += typeText(x, real, texts.get(random.nextInt(texts.size())), CALLS - calls);
                } else {
                    askOne(x, real, random, "run " + run + ", call " + (calls + 1) + ": ");
                    calls++;
                }
            }
        }
    }

    /** Types a text by eights, as far as there are calls left; answers how many it took. */
    private static int typeText(ClassProbe x, ClassObjects real, String text, int left) {
        int calls = 0;
        for (int from = 0; from < text.length() && calls < left; from += 8) {
            long eight = 0;
            for (int i = from; i < Math.min(from + 8, text.length()); i++) {
                eight = eight << 8 | text.charAt(i);
            }
            DUE.is("types(" + eight + ")", x.types(eight), real.types(eight));
            calls++;
        }
        return calls;
    }

    private static void askOne(ClassProbe x, ClassObjects real, Random random, String where) {
        int t = someType(random);
        int u = someType(random);
        int n = random.nextInt(13) - 1;
        int slot = random.nextInt(10) - 1;
        int other = random.nextInt(9);
        int c = 20 + random.nextInt(120);
        int call = random.nextInt(22);
        String asked = where + call + " of " + t + ", " + u + ", " + n + ", " + slot + ", " + other + ", " + c;
        switch (call) {
            case 0 -> DUE.is(asked, x.letter(t, n, c % 40), real.letter(t, n, c % 40));
            case 1 -> DUE.is(asked, x.size(t, n), real.size(t, n));
            case 2 -> DUE.is(asked, x.flag(t, n), real.flag(t, n));
            case 3 -> DUE.is(asked, x.number(t, n), real.number(t, n));
            case 4 -> DUE.is(asked, x.related(t, n), real.related(t, n));
            case 5 -> DUE.is(asked, x.interfaceOf(t, n), real.interfaceOf(t, n));
            case 6 -> DUE.is(asked, x.goesInto(u, t), real.goesInto(u, t));
            case 7 -> DUE.is(asked, x.asSubclass(u, t), real.asSubclass(u, t));
            case 8 -> DUE.is(asked, x.nestmates(u, t), real.nestmates(u, t));
            case 9 -> DUE.is(asked, x.type(c), real.type(c));
            case 10 -> DUE.is(asked, x.types(c << 8), real.types(c << 8));
            case 11, 12 -> DUE.is(asked, x.find(), real.find());
            case 13, 14, 15 -> DUE.is(asked, x.put(slot, t), real.put(slot, t));
            case 16 -> DUE.is(asked, x.put(slot, n), real.put(slot, n));
            case 17 -> DUE.is(asked, x.typeOf(slot), real.typeOf(slot));
            case 18 -> DUE.is(asked, x.isOf(slot, t), real.isOf(slot, t));
            case 19 -> DUE.is(asked, x.cast(slot, t), real.cast(slot, t));
            case 20 -> DUE.is(asked, x.light(slot), real.light(slot));
            default -> DUE.is(asked, x.alike(slot, other), real.alike(slot, other));
        }
    }

    /** Mostly of the types that have things or relations, at times any number near the types. */
    private static int someType(Random random) {
        int plain = 9 + random.nextInt(16);
        return random.nextInt(4) == 0 ? LOWEST + random.nextInt(HIGHEST - LOWEST) : plain + 40 * random.nextInt(3);
    }
}
