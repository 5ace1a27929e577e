/**
 * A bench of types of every sort, and all that their class objects tell. The types are numbers; what is known of
 * them is written down in Bench, since the part of Java that this file keeps to has no class objects to ask.
 */
public final class ClassProbe {
    public static final int DONE = 0;
    public static final int REFUSED = -1;
    public static final int NULL = -2;
    public static final int OTHER = -3;
    public static final int NOT_FOUND = -4;
    public static final int CAST = -5;
    public static final int FULL = -6;

    private static final int VOID = 8;
    private static final int OBJECT = 9;
    private static final int RUNNABLE = 10;
    private static final int PROBE = 11;
    private static final int MARK = 12;
    private static final int SHAPE = 13;
    private static final int CIRCLE = 14;
    private static final int SQUARE = 15;
    private static final int COLOR = 16;
    private static final int GREEN = 17;
    private static final int INNER = 18;
    private static final int DEEP = 19;
    private static final int NOTE = 20;
    private static final int BOX = 21;
    private static final int TALL = 22;
    private static final int LOCAL = 23;
    private static final int TASK = 24;

    /** How many PLAIN types there are. */
    private static final int PLAIN = 25;
    /** What each level of an array adds to the number of a type. */
    private static final int ARRAY = 40;
    private static final int MOST_LEVELS = 2;

    private static final int SLOTS = 8;
    /** Asks put for a null. */
    private static final int NO_THING = -1;

    /**
     * The type of the thing in each SLOT, or NULL. No call moves a thing from one SLOT to another, so the types alone
     * tell which SLOTS hold the same thing.
     */
    private final int[] held = new int[SLOTS];
    private final Script script = new Script();
    private final Query query = new Query();

    public ClassProbe() {
        for (int slot = 0; slot < SLOTS; slot++) {
            held[slot] = NULL;
        }
    }

    public int letter(int t, int which, int i) {
        int length = writeText(t, which);
        if (length < 0) {
            return length;
        }
        return i >= 0 && i < length ? script.codeAt(i) : 0;
    }

    public int size(int t, int which) {
        return writeText(t, which);
    }

    public boolean flag(int t, int what) {
        if (!Bench.isType(t)) {
            return false;
        }
        switch (what) {
            case 0:
                return Bench.isArray(t);
            case 1:
                return Bench.isPrimitive(t);
            case 2:
                return Bench.isInterface(t);
            case 3:
                return t == NOTE;
            case 4:
                return t == COLOR;
            case 5:
                return t == CIRCLE;
            case 6:
                return t == SHAPE || t == COLOR;
            case 7:
                return Bench.isNameless(t);
            case 8:
                return t == LOCAL;
            case 9:
                return Bench.isMember(t);
            case 10:
                return Bench.isInMethod(t);
            default:
                return false;
        }
    }

    public int number(int t, int what) {
        if (!Bench.isType(t)) {
            return REFUSED;
        }
        switch (what) {
            case 0:
                return Bench.modifiers(t);
            case 1:
                return Bench.interfaceCount(t);
            case 2:
                return t == BOX ? 1 : 0;
            case 3:
                return t == COLOR ? 2 : NULL;
            case 4:
                return t == CIRCLE ? 1 : NULL;
            case 5:
                return Bench.permitted(t);
            case 6:
                return Bench.memberCount(t);
            case 7:
                return Bench.nestSize(t);
            default:
                return REFUSED;
        }
    }

    public int related(int t, int what) {
        if (!Bench.isType(t)) {
            return REFUSED;
        }
        switch (what) {
            case 0:
                return Bench.classUp(t);
            case 1:
                return Bench.isArray(t) ? t - ARRAY : NULL;
            case 2:
                return Bench.standsIn(t);
            case 3:
                return Bench.isMember(t) ? Bench.standsIn(t) : NULL;
            case 4:
                return Bench.isInNest(t) ? PROBE : t;
            case 5:
                return Bench.arrayOf(t, 1);
            default:
                return REFUSED;
        }
    }

    public int interfaceOf(int t, int k) {
        return Bench.isType(t) ? Bench.interfaceAt(t, k) : REFUSED;
    }

    public boolean goesInto(int u, int t) {
        return Bench.isType(u) && Bench.isType(t) && Bench.fits(u, t);
    }

    public int asSubclass(int u, int t) {
        if (!Bench.isType(u) || !Bench.isType(t)) {
            return REFUSED;
        }
        return Bench.fits(u, t) ? u : CAST;
    }

    public boolean nestmates(int u, int t) {
        if (!Bench.isType(u) || !Bench.isType(t)) {
            return false;
        }
        return u == t || (Bench.isInNest(u) && Bench.isInNest(t));
    }

    public int type(int c) {
        return query.add(c);
    }

    public int types(long eight) {
        for (int shift = 56; shift >= 0; shift -= 8) {
            int c = (int) (eight >>> shift) & 255;
            int answer = c == 0 ? DONE : query.add(c);
            if (answer < 0) {
                return answer;
            }
        }
        return query.length();
    }

    public int find() {
        int answer = query.lookUp();
        query.clear();
        return answer;
    }

    public int put(int slot, int t) {
        if (!isSlot(slot) || (t != NO_THING && !Bench.isType(t))) {
            return REFUSED;
        }
        if (t == NO_THING) {
            held[slot] = NULL;
            return DONE;
        }
        if (!Bench.hasThings(t)) {
            return NULL;
        }
        held[slot] = t;
        return DONE;
    }

    public int typeOf(int slot) {
        return isSlot(slot) ? held[slot] : REFUSED;
    }

    public boolean isOf(int slot, int t) {
        if (!isSlot(slot) || !Bench.isType(t) || held[slot] == NULL) {
            return false;
        }
        return Bench.fits(held[slot], t);
    }

    public int cast(int slot, int t) {
        if (!isSlot(slot) || !Bench.isType(t)) {
            return REFUSED;
        }
        return held[slot] == NULL || Bench.fits(held[slot], t) ? DONE : CAST;
    }

    public int light(int slot) {
        if (!isSlot(slot)) {
            return REFUSED;
        }
        switch (held[slot]) {
            case NULL:
                return NULL;
            case COLOR:
                return 1;
            case GREEN:
                return 12;
            case CIRCLE:
                return 114;
            default:
                return OTHER;
        }
    }

    public boolean alike(int a, int b) {
        if (!isSlot(a) || !isSlot(b)) {
            return false;
        }
        return a == b || (held[a] == held[b] && isAlwaysAlike(held[a]));
    }

    private static boolean isSlot(int slot) {
        return slot >= 0 && slot < SLOTS;
    }

    /** Whether what any two SLOTS hold of this is alike: null, the types with one thing only, and Circles. */
    private static boolean isAlwaysAlike(int t) {
        switch (t) {
            case NULL:
            case PROBE:
            case CIRCLE:
            case COLOR:
            case GREEN:
            case LOCAL:
            case TASK:
                return true;
            default:
                return false;
        }
    }

    /** Has the script write that text; its length, or why there is none. */
    private int writeText(int t, int which) {
        if (!Bench.isType(t) || which < 0 || which > Script.LAST) {
            return REFUSED;
        }
        return script.write(t, which) ? script.length() : NULL;
    }

    /** What is known of the types. Every method but isType is asked of types only. */
    private static final class Bench {
        private static final int PUBLIC = 1;
        private static final int PRIVATE = 2;
        private static final int PROTECTED = 4;
        private static final int STATIC = 8;
        private static final int FINAL = 16;
        private static final int INTERFACE = 512;
        private static final int ABSTRACT = 1024;
        private static final int ANNOTATION = 8192;
        private static final int ENUM = 16384;
        /** The DESCRIPTORS of the PRIMITIVE types, in order. */
        private static final String CODES = "ZBCSIJFDV";

        private static boolean isType(int t) {
            if (t < 0 || levels(t) > MOST_LEVELS || plain(t) >= PLAIN) {
                return false;
            }
            return t == VOID || plain(t) != VOID;
        }

        private static int levels(int t) {
            return t / ARRAY;
        }

        private static int plain(int t) {
            return t % ARRAY;
        }

        private static boolean isArray(int t) {
            return t >= ARRAY;
        }

        private static boolean isPrimitive(int t) {
            return t <= VOID;
        }

        private static boolean isInterface(int t) {
            return t == RUNNABLE || t == MARK || t == SHAPE || t == NOTE;
        }

        private static boolean isNameless(int t) {
            return t == GREEN || t == TASK;
        }

        private static boolean isInMethod(int t) {
            return t == LOCAL || t == TASK;
        }

        private static boolean isMember(int t) {
            return t >= MARK && t <= TALL && t != GREEN;
        }

        private static boolean isInNest(int t) {
            return t >= PROBE && t < PLAIN;
        }

        private static String name(int plain) {
            switch (plain) {
                case 0: return "boolean";
                case 1: return "byte";
                case 2: return "char";
                case 3: return "short";
                case 4: return "int";
                case 5: return "long";
                case 6: return "float";
                case 7: return "double";
                case VOID: return "void";
                case OBJECT: return "java.lang.Object";
                case RUNNABLE: return "java.lang.Runnable";
                case PROBE: return "ClassProbe";
                case MARK: return "ClassProbe$Mark";
                case SHAPE: return "ClassProbe$Shape";
                case CIRCLE: return "ClassProbe$Circle";
                case SQUARE: return "ClassProbe$Square";
                case COLOR: return "ClassProbe$Color";
                case GREEN: return "ClassProbe$Color$1";
                case INNER: return "ClassProbe$Inner";
                case DEEP: return "ClassProbe$Inner$Deep";
                case NOTE: return "ClassProbe$Note";
                case BOX: return "ClassProbe$Box";
                case TALL: return "ClassProbe$Tall";
                case LOCAL: return "ClassProbe$1Local";
                case TASK: return "ClassProbe$1";
                default: return "";
            }
        }

        private static int modifiers(int t) {
            int plain = plainModifiers(plain(t));
            return isArray(t) ? ABSTRACT + FINAL + (plain & (PUBLIC + PRIVATE + PROTECTED)) : plain;
        }

        private static int plainModifiers(int plain) {
            switch (plain) {
                case OBJECT:
                    return PUBLIC;
                case RUNNABLE:
                    return PUBLIC + INTERFACE + ABSTRACT;
                case PROBE:
                    return PUBLIC + FINAL;
                case MARK:
                case SHAPE:
                    return STATIC + INTERFACE + ABSTRACT;
                case CIRCLE:
                case SQUARE:
                    return STATIC + FINAL;
                case COLOR:
                    return STATIC + ENUM;
                case GREEN:
                    return FINAL + ENUM;
                case INNER:
                    return PRIVATE;
                case DEEP:
                    return PROTECTED;
                case NOTE:
                    return STATIC + INTERFACE + ABSTRACT + ANNOTATION;
                case BOX:
                    return STATIC + ABSTRACT;
                case TALL:
                    return STATIC;
                case LOCAL:
                case TASK:
                    return 0;
                default:
                    return PUBLIC + FINAL + ABSTRACT;
            }
        }

        private static int classUp(int t) {
            switch (t) {
                case CIRCLE:
                case COLOR:
                    return OTHER;
                case GREEN:
                    return COLOR;
                case TALL:
                    return BOX;
                case LOCAL:
                    return TALL;
                default:
                    return t <= OBJECT || isInterface(t) ? NULL : OBJECT;
            }
        }

        private static int interfaceCount(int t) {
            if (isArray(t) || t == SQUARE) {
                return 2;
            }
            return t == CIRCLE || t == NOTE || t == BOX || t == LOCAL || t == TASK ? 1 : 0;
        }

        private static int interfaceAt(int t, int k) {
            if (k < 0 || k >= interfaceCount(t)) {
                return NULL;
            }
            switch (t) {
                case CIRCLE:
                    return SHAPE;
                case SQUARE:
                    return k == 0 ? SHAPE : MARK;
                case LOCAL:
                    return MARK;
                case TASK:
                    return RUNNABLE;
                default:
                    return OTHER;
            }
        }

        /**
         * GOES INTO. Levels that both have are taken off first; that a PRIMITIVE element type goes into no other
         * needs no test of its own then, for PRIMITIVE types go into themselves alone.
         */
        private static boolean fits(int u, int t) {
            int from = u;
            int to = t;
            for (int level = 0; level < MOST_LEVELS && isArray(from) && isArray(to); level++) {
                from -= ARRAY;
                to -= ARRAY;
            }
            return to == OBJECT ? !isPrimitive(from) : reaches(from, to);
        }

        /** Goes up class by class: no interface here has one of its own that has a number. */
        private static boolean reaches(int u, int t) {
            int at = u;
            for (int step = 0; step < PLAIN && at >= 0; step++) {
                if (at == t || interfaceAt(at, 0) == t || interfaceAt(at, 1) == t) {
                    return true;
                }
                at = classUp(at);
            }
            return false;
        }

        private static int standsIn(int t) {
            if (t == GREEN) {
                return COLOR;
            }
            if (t == DEEP) {
                return INNER;
            }
            return isInNest(t) && t != PROBE ? PROBE : NULL;
        }

        private static int permitted(int t) {
            if (t == SHAPE) {
                return 2;
            }
            return t == COLOR ? 1 : NULL;
        }

        private static int memberCount(int t) {
            if (t == PROBE) {
                return 9;
            }
            return t == INNER ? 1 : 0;
        }

        private static int nestSize(int t) {
            if (t == OBJECT || t == RUNNABLE) {
                return REFUSED;
            }
            return isInNest(t) ? 14 : 1;
        }

        /** The type with so many levels more; NULL for arrays of void, OTHER for more levels than have numbers. */
        private static int arrayOf(int t, int more) {
            if (more > 0 && t == VOID) {
                return NULL;
            }
            return more > MOST_LEVELS - levels(t) ? OTHER : t + more * ARRAY;
        }

        private static boolean hasThings(int t) {
            return t == OBJECT || (t >= PROBE && !isInterface(t) && t != BOX);
        }
    }

    /** Writes the TEXTS of types, one at a time, into a row that is used again and again. */
    private static final class Script {
        private static final int LAST = 7;

        private final StringBuilder row = new StringBuilder();

        private int length() {
            return row.length();
        }

        /** The character there; i is below the length. */
        private int codeAt(int i) {
            return row.charAt(i);
        }

        /** Whether the type has that text, which then stands in the row. */
        private boolean write(int t, int which) {
            row.setLength(0);
            int plain = Bench.plain(t);
            switch (which) {
                case 0:
                    addName(t);
                    return true;
                case 1:
                    addOwnName(Bench.name(plain));
                    addBrackets(t);
                    return true;
                case 2:
                    addWithChange(Bench.name(plain), '$', '.');
                    addBrackets(t);
                    return !Bench.isNameless(plain) && !Bench.isInMethod(plain);
                case 3:
                    row.append(Bench.name(plain));
                    addBrackets(t);
                    return true;
                case 4:
                    row.append(plain <= RUNNABLE ? "java.lang" : "");
                    return true;
                case 5:
                    addKind(t);
                    addName(t);
                    return true;
                case 6:
                    addCode(t, '/');
                    return true;
                default:
                    addModifiers(Bench.modifiers(t));
                    return true;
            }
        }

        private void addName(int t) {
            if (Bench.isArray(t)) {
                addCode(t, '.');
            } else {
                row.append(Bench.name(t));
            }
        }

        /** THE DESCRIPTOR, with this for each point: with the point itself it is THE NAME of an array. */
        private void addCode(int t, char point) {
            for (int level = 0; level < Bench.levels(t); level++) {
                row.append('[');
            }
            int plain = Bench.plain(t);
            if (Bench.isPrimitive(plain)) {
                row.append(Bench.CODES.charAt(plain));
                return;
            }
            row.append('L');
            addWithChange(Bench.name(plain), '.', point);
            row.append(';');
        }

        private void addWithChange(String name, char old, char now) {
            for (int i = 0; i < name.length(); i++) {
                char c = name.charAt(i);
                row.append(c == old ? now : c);
            }
        }

        /**
         * What is behind the last point, $ or digit, for digits only number the classes that have them. It begins the
         * row, which is emptied at each of these.
         */
        private void addOwnName(String name) {
            for (int i = 0; i < name.length(); i++) {
                char c = name.charAt(i);
                if (c == '.' || c == '$' || (c >= '0' && c <= '9')) {
                    row.setLength(0);
                } else {
                    row.append(c);
                }
            }
        }

        private void addBrackets(int t) {
            for (int level = 0; level < Bench.levels(t); level++) {
                row.append("[]");
            }
        }

        private void addKind(int t) {
            if (Bench.isInterface(t)) {
                row.append("interface ");
            } else if (!Bench.isPrimitive(t)) {
                row.append("class ");
            }
        }

        private void addModifiers(int modifiers) {
            addWord(modifiers & Bench.PUBLIC, "public");
            addWord(modifiers & Bench.PROTECTED, "protected");
            addWord(modifiers & Bench.PRIVATE, "private");
            addWord(modifiers & Bench.ABSTRACT, "abstract");
            addWord(modifiers & Bench.STATIC, "static");
            addWord(modifiers & Bench.FINAL, "final");
            addWord(modifiers & Bench.INTERFACE, "interface");
        }

        private void addWord(int modifier, String word) {
            if (modifier == 0) {
                return;
            }
            if (row.length() > 0) {
                row.append(' ');
            }
            row.append(word);
        }
    }

    /** THE TEXT, and looking types up by it. */
    private static final class Query {
        private static final String MEMBERS_START = "ClassProbe$";
        private static final int MOST = 40;

        private final StringBuilder text = new StringBuilder();

        private int length() {
            return text.length();
        }

        private void clear() {
            text.setLength(0);
        }

        /** The length with this character added, or REFUSED or FULL. */
        private int add(int c) {
            if (c < 33 || c > 126) {
                return REFUSED;
            }
            if (text.length() >= MOST) {
                return FULL;
            }
            text.append((char) c);
            return text.length();
        }

        private int lookUp() {
            int levels = countLevels();
            int end = text.length();
            if (levels == 0) {
                return lookUpElement(0, end, 0);
            }
            if (end - levels > 2 && text.charAt(levels) == 'L' && text.charAt(end - 1) == ';') {
                return lookUpElement(levels + 1, end - 1, levels);
            }
            return end - levels < 2 ? lookUpCode(levels) : REFUSED;
        }

        /** How many [ THE TEXT begins with. */
        private int countLevels() {
            int levels = 0;
            while (levels < text.length() && text.charAt(levels) == '[') {
                levels++;
            }
            return levels;
        }

        /** Looks up the ELEMENT from there to there, or the array of it with so many levels. */
        private int lookUpElement(int from, int to, int levels) {
            for (int plain = 0; plain < PLAIN; plain++) {
                String name = Bench.name(plain);
                if (to - from == name.length() && standsAt(name, from, to)) {
                    return Bench.isPrimitive(plain) ? NOT_FOUND : Bench.arrayOf(plain, levels);
                }
            }
            return standsAt(MEMBERS_START, from, to) ? NOT_FOUND : REFUSED;
        }

        /** Looks up the array with so many levels, behind which a PRIMITIVE type's letter or nothing stands. */
        private int lookUpCode(int levels) {
            if (levels == text.length()) {
                return NOT_FOUND;
            }
            int plain = Bench.CODES.indexOf(text.charAt(levels));
            return plain < 0 || plain == VOID ? NOT_FOUND : Bench.arrayOf(plain, levels);
        }

        /** Whether THE TEXT, between from and to, begins with the word. */
        private boolean standsAt(String word, int from, int to) {
            if (to - from < word.length()) {
                return false;
            }
            for (int i = 0; i < word.length(); i++) {
                if (text.charAt(from + i) != word.charAt(i)) {
                    return false;
                }
            }
            return true;
        }
    }
}
