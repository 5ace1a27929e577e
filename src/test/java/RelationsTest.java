/** Promises 6 (related), 7 (interfaceOf), 8 (goesInto), 9 (asSubclass) and 10 (nestmates). */
public final class RelationsTest {
    private static final int NONE = ClassProbe.NULL;
    private static final int ELSE = ClassProbe.OTHER;
    private static final int[] UP = {
        NONE, NONE, NONE, NONE, NONE, NONE, NONE, NONE, NONE, NONE, NONE, 9, NONE, NONE, ELSE, 9, ELSE, 16, 9, 9, NONE,
        9, 21, 22, 9
    };
    /** All pairs of two PLAIN types u, t that are not the same, t not 9, where u GOES INTO t. */
    private static final int[][] INTO = {
        {14, 13}, {15, 13}, {15, 12}, {17, 16}, {22, 21}, {23, 22}, {23, 21}, {23, 12}, {24, 10}
    };

    private static final Due DUE = new Due();

    public static void main(String[] args) {
        for (int t : Numbers.allTypes()) {
            askRelated(t);
            askInterfaces(t);
            askPairs(t);
        }
        askWrittenOut();
        askWrongNumbers();
        DUE.end();
    }

    private static void askRelated(int t) {
        ClassProbe x = new ClassProbe();
        int in = t == 17 ? 16 : t == 19 ? 18 : t >= 12 && t <= 24 ? 11 : NONE;
        int array = t == 8 ? NONE : t >= 80 ? ELSE : t + 40;
        DUE.is("related(" + t + ", 0)", x.related(t, 0), t >= 40 ? 9 : UP[t]);
        DUE.is("related(" + t + ", 1)", x.related(t, 1), t >= 40 ? t - 40 : NONE);
        DUE.is("related(" + t + ", 2)", x.related(t, 2), in);
        DUE.is("related(" + t + ", 3)", x.related(t, 3), Numbers.isAmong(t, 17, 23, 24) ? NONE : in);
        DUE.is("related(" + t + ", 4)", x.related(t, 4), t >= 11 && t <= 24 ? 11 : t);
        DUE.is("related(" + t + ", 5)", x.related(t, 5), array);
        int[] others = {-1, 6, 7, 100, Integer.MIN_VALUE, Integer.MAX_VALUE};
        for (int what : others) {
            DUE.is("related(" + t + ", " + what + ")", x.related(t, what), ClassProbe.REFUSED);
        }
    }

    private static void askInterfaces(int t) {
        ClassProbe x = new ClassProbe();
        int[] all = dueInterfaces(t);
        int[] numbers = {Integer.MIN_VALUE, -1, 0, 1, 2, 3, 100, Integer.MAX_VALUE};
        for (int k : numbers) {
            int want = k >= 0 && k < all.length ? all[k] : NONE;
            DUE.is("interfaceOf(" + t + ", " + k + ")", x.interfaceOf(t, k), want);
        }
    }

    private static int[] dueInterfaces(int t) {
        if (t >= 40) {
            return new int[] {ELSE, ELSE};
        }
        switch (t) {
            case 14:
                return new int[] {13};
            case 15:
                return new int[] {13, 12};
            case 20:
            case 21:
                return new int[] {ELSE};
            case 23:
                return new int[] {12};
            case 24:
                return new int[] {10};
            default:
                return new int[0];
        }
    }

    private static void askPairs(int u) {
        ClassProbe x = new ClassProbe();
        for (int t : Numbers.allTypes()) {
            boolean into = dueInto(u, t);
            String pair = "(" + u + ", " + t + ")";
            DUE.is("goesInto" + pair, x.goesInto(u, t), into);
            DUE.is("asSubclass" + pair, x.asSubclass(u, t), into ? u : ClassProbe.CAST);
            boolean nested = u >= 11 && u <= 24 && t >= 11 && t <= 24;
            DUE.is("nestmates" + pair, x.nestmates(u, t), nested || u == t);
        }
    }

    private static boolean dueInto(int u, int t) {
        if (u == t || (t == 9 && u > 8)) {
            return true;
        }
        if (u >= 40 && t >= 40) {
            return u - 40 > 8 && t - 40 > 8 && dueInto(u - 40, t - 40);
        }
        for (int[] pair : INTO) {
            if (pair[0] == u && pair[1] == t) {
                return true;
            }
        }
        return false;
    }

    /** Pairs with a plain answer of their own, so that they do not hang on dueInto. */
    private static void askWrittenOut() {
        int[][] into = {
            {8, 8}, {4, 4}, {10, 9}, {20, 9}, {40, 9}, {80, 9}, {40, 40}, {80, 80}, {80, 49}, {89, 49}, {50, 49},
            {54, 53}, {63, 61}, {103, 92}, {103, 89}, {103, 49}, {104, 90}, {11, 9}
        };
        for (int[] pair : into) {
            askPair(pair[0], pair[1], true);
        }
        int[][] not = {
            {4, 5}, {4, 9}, {8, 9}, {9, 4}, {40, 49}, {49, 40}, {40, 41}, {80, 89}, {89, 80}, {49, 80}, {49, 89},
            {80, 40}, {40, 80}, {9, 49}, {54, 13}, {14, 53}, {13, 14}, {14, 12}, {16, 17}, {19, 18}, {20, 12},
            {22, 12}, {12, 23}, {11, 12}, {54, 93}, {94, 53}, {9, 10}, {40, 10}, {22, 20}
        };
        for (int[] pair : not) {
            askPair(pair[0], pair[1], false);
        }
    }

    private static void askPair(int u, int t, boolean into) {
        ClassProbe x = new ClassProbe();
        DUE.is("goesInto(" + u + ", " + t + ")", x.goesInto(u, t), into);
        DUE.is("asSubclass(" + u + ", " + t + ")", x.asSubclass(u, t), into ? u : ClassProbe.CAST);
    }

    private static void askWrongNumbers() {
        for (int no : Numbers.NO_TYPES) {
            ClassProbe x = new ClassProbe();
            for (int k = -1; k <= 6; k++) {
                DUE.is("related(" + no + ", " + k + ")", x.related(no, k), ClassProbe.REFUSED);
                DUE.is("interfaceOf(" + no + ", " + k + ")", x.interfaceOf(no, k), ClassProbe.REFUSED);
            }
            int[] others = {no, 0, 8, 9, 11, 12, 24, 49, 89};
            for (int t : others) {
                askNoPair(x, no, t);
                askNoPair(x, t, no);
            }
        }
    }

    private static void askNoPair(ClassProbe x, int u, int t) {
        String pair = "(" + u + ", " + t + ")";
        DUE.is("goesInto" + pair, x.goesInto(u, t), false);
        DUE.is("asSubclass" + pair, x.asSubclass(u, t), ClassProbe.REFUSED);
        DUE.is("nestmates" + pair, x.nestmates(u, t), false);
    }
}
