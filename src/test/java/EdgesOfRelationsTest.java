/** The edges of promises 6 (related), 7 (interfaceOf), 8 (goesInto), 9 (asSubclass) and 10 (nestmates). */
public final class EdgesOfRelationsTest {
    private static final int REFUSED = ClassProbe.REFUSED;
    private static final int NULL = ClassProbe.NULL;
    private static final int OTHER = ClassProbe.OTHER;
    private static final int CAST = ClassProbe.CAST;
    /** A type at each edge of their ranges. */
    private static final int[] AT_EDGES = {0, 8, 9, 11, 24, 40, 47, 49, 64, 80, 104};

    private static final Due DUE = new Due();

    public static void main(String[] args) {
        relatedToNoTypes();
        otherRelations();
        classesUp();
        elementTypes();
        standingIn();
        standingInAsMembers();
        outermost();
        arrays();
        interfacesOfNoTypes();
        otherInterfaces();
        interfacesInOrder();
        intoItself();
        intoObject();
        intoByUpAndInterfaces();
        arraysIntoArrays();
        intoWithNoTypes();
        asSubclassThatGoes();
        asSubclassElse();
        asSubclassWithNoTypes();
        nestedTogether();
        nestedWithNoTypes();
        DUE.end();
    }

    private static void relatedToNoTypes() {
        DUE.sentence("6: No type .. : REFUSED.");
        for (int no : Numbers.manyNoTypes()) {
            for (int what = -1; what <= 6; what++) {
                askRelated(no, what, REFUSED);
            }
        }
    }

    private static void otherRelations() {
        DUE.sentence("6: another number: REFUSED.");
        for (int t : Numbers.allTypes()) {
            for (int what : Numbers.outside(0, 5)) {
                askRelated(t, what, REFUSED);
            }
        }
    }

    private static void classesUp() {
        DUE.sentence("Terms: THE CLASS UP of a type: of 9, 10, PRIMITIVE types and interfaces none");
        int[][] due = {
            {0, NULL}, {8, NULL}, {9, NULL}, {10, NULL}, {11, 9}, {12, NULL}, {13, NULL}, {14, OTHER}, {15, 9},
            {16, OTHER}, {17, 16}, {18, 9}, {19, 9}, {20, NULL}, {21, 9}, {22, 21}, {23, 22}, {24, 9}, {40, 9}, {47, 9},
            {49, 9}, {50, 9}, {52, 9}, {54, 9}, {56, 9}, {57, 9}, {60, 9}, {62, 9}, {63, 9}, {64, 9}, {80, 9}, {89, 9},
            {104, 9}
        };
        askAllRelated(0, due);
    }

    private static void elementTypes() {
        DUE.sentence("6: 1 its elements' type (arrays)");
        int[][] due = {
            {0, NULL}, {8, NULL}, {9, NULL}, {24, NULL}, {40, 0}, {47, 7}, {49, 9}, {64, 24}, {80, 40}, {87, 47},
            {89, 49}, {104, 64}
        };
        askAllRelated(1, due);
    }

    private static void standingIn() {
        DUE.sentence("6: 2 the class it stands in (11 for 12 .. 24, but 16 for 17 and 18 for 19)");
        int[][] due = {
            {0, NULL}, {8, NULL}, {9, NULL}, {10, NULL}, {11, NULL}, {12, 11}, {16, 11}, {17, 16}, {18, 11}, {19, 18},
            {20, 11}, {23, 11}, {24, 11}, {40, NULL}, {51, NULL}, {52, NULL}, {57, NULL}, {59, NULL}, {64, NULL},
            {92, NULL}, {104, NULL}
        };
        askAllRelated(2, due);
    }

    private static void standingInAsMembers() {
        DUE.sentence("6: 3 the same, but for MEMBERS only");
        int[][] due = {
            {0, NULL}, {11, NULL}, {12, 11}, {16, 11}, {17, NULL}, {18, 11}, {19, 18}, {20, 11}, {22, 11}, {23, NULL},
            {24, NULL}, {52, NULL}, {59, NULL}, {62, NULL}, {92, NULL}, {102, NULL}
        };
        askAllRelated(3, due);
    }

    private static void outermost() {
        DUE.sentence("6: 4 the outermost class of those nested together (11 for 11 .. 24, else itself)");
        int[][] due = {
            {0, 0}, {8, 8}, {9, 9}, {10, 10}, {11, 11}, {12, 11}, {17, 11}, {19, 11}, {23, 11}, {24, 11}, {40, 40},
            {47, 47}, {49, 49}, {51, 51}, {52, 52}, {64, 64}, {80, 80}, {91, 91}, {104, 104}
        };
        askAllRelated(4, due);
    }

    private static void arrays() {
        DUE.sentence("6: 5 the array of it (NULL for void, OTHER for arrays of arrays)");
        int[][] due = {
            {0, 40}, {7, 47}, {8, NULL}, {9, 49}, {24, 64}, {40, 80}, {47, 87}, {49, 89}, {64, 104}, {80, OTHER},
            {87, OTHER}, {89, OTHER}, {104, OTHER}
        };
        askAllRelated(5, due);
    }

    /** No type is told of before a k that is none. */
    private static void interfacesOfNoTypes() {
        DUE.sentence("7: no type: REFUSED");
        for (int no : Numbers.manyNoTypes()) {
            int[] numbers = {Integer.MIN_VALUE, -1, 0, 1, 2, Integer.MAX_VALUE};
            for (int k : numbers) {
                askInterface(no, k, REFUSED);
            }
        }
    }

    private static void otherInterfaces() {
        DUE.sentence("7: NULL if there is none");
        for (int t : Numbers.allTypes()) {
            int count = t >= 40 || t == 15 ? 2 : Numbers.isAmong(t, 14, 20, 21, 23, 24) ? 1 : 0;
            int[] others = {Integer.MIN_VALUE, -2, -1, count, count + 1, count + 256, Integer.MAX_VALUE};
            for (int k : others) {
                askInterface(t, k, NULL);
            }
        }
    }

    private static void interfacesInOrder() {
        DUE.sentence("7: Number k (from 0) of THE INTERFACES of the type, or OTHER");
        int[][] due = {
            {14, 0, 13}, {15, 0, 13}, {15, 1, 12}, {20, 0, OTHER}, {21, 0, OTHER}, {23, 0, 12}, {24, 0, 10},
            {40, 0, OTHER}, {40, 1, OTHER}, {55, 0, OTHER}, {55, 1, OTHER}, {64, 0, OTHER}, {64, 1, OTHER},
            {80, 0, OTHER}, {104, 1, OTHER}
        };
        for (int[] row : due) {
            askInterface(row[0], row[1], row[2]);
        }
    }

    private static void intoItself() {
        DUE.sentence("Terms: Type u GOES INTO t: if they are the same");
        for (int t : Numbers.allTypes()) {
            askInto(t, t, true);
        }
    }

    private static void intoObject() {
        DUE.sentence("Terms: GOES INTO .. if t is 9 and u isn't PRIMITIVE");
        for (int u : Numbers.allTypes()) {
            askInto(u, 9, u > 8);
        }
    }

    private static void intoByUpAndInterfaces() {
        DUE.sentence("Terms: GOES INTO .. if t is reached from u by THE CLASS UP and THE INTERFACES, again and again");
        int[][] reached = {
            {14, 13}, {15, 13}, {15, 12}, {17, 16}, {22, 21}, {23, 22}, {23, 21}, {23, 12}, {24, 10}
        };
        for (int u = 0; u <= 24; u++) {
            for (int t = 0; t <= 24; t++) {
                if (t != u && t != 9) {
                    askInto(u, t, isPair(u, t, reached));
                }
            }
        }
    }

    private static boolean isPair(int u, int t, int[][] pairs) {
        for (int[] pair : pairs) {
            if (pair[0] == u && pair[1] == t) {
                return true;
            }
        }
        return false;
    }

    private static void arraysIntoArrays() {
        DUE.sentence("Terms: GOES INTO .. if both are arrays, of types that are not PRIMITIVE, and that of u ..");
        int[][] into = {
            {54, 53}, {55, 52}, {57, 56}, {63, 61}, {63, 52}, {64, 50}, {50, 49}, {64, 49}, {80, 49}, {87, 49},
            {104, 49}, {94, 93}, {103, 101}, {104, 90}, {104, 89}, {89, 49}
        };
        for (int[] pair : into) {
            askInto(pair[0], pair[1], true);
        }
        int[][] not = {
            {40, 41}, {44, 45}, {40, 49}, {47, 49}, {80, 81}, {80, 89}, {87, 89}, {40, 80}, {80, 40}, {49, 89},
            {49, 40}, {53, 54}, {54, 52}, {54, 13}, {14, 53}, {54, 93}, {94, 53}, {104, 50}, {64, 90}, {24, 50}
        };
        for (int[] pair : not) {
            askInto(pair[0], pair[1], false);
        }
    }

    private static void intoWithNoTypes() {
        DUE.sentence("8: false for no types");
        for (int no : Numbers.manyNoTypes()) {
            askInto(no, no, false);
            for (int t : AT_EDGES) {
                askInto(no, t, false);
                askInto(t, no, false);
            }
        }
    }

    private static void asSubclassThatGoes() {
        DUE.sentence("9: u, if it GOES INTO t");
        for (int u : Numbers.allTypes()) {
            askSubclass(u, u, u);
            askSubclass(u, 9, u > 8 ? u : CAST);
        }
        askSubclass(23, 12, 23);
        askSubclass(103, 49, 103);
    }

    private static void asSubclassElse() {
        DUE.sentence("9: else CAST");
        int[][] not = {{0, 1}, {8, 9}, {9, 8}, {9, 10}, {13, 14}, {24, 64}, {64, 24}, {40, 49}, {49, 89}, {80, 104}};
        for (int[] pair : not) {
            askSubclass(pair[0], pair[1], CAST);
        }
    }

    private static void asSubclassWithNoTypes() {
        DUE.sentence("9: no types: REFUSED");
        for (int no : Numbers.manyNoTypes()) {
            askSubclass(no, no, REFUSED);
            for (int t : AT_EDGES) {
                askSubclass(no, t, REFUSED);
                askSubclass(t, no, REFUSED);
            }
        }
    }

    private static void nestedTogether() {
        DUE.sentence("10: Whether both are types that are nested together, or the same.");
        for (int u : Numbers.allTypes()) {
            for (int t : Numbers.allTypes()) {
                boolean together = Numbers.within(u, 11, 24) && Numbers.within(t, 11, 24);
                askNestmates(u, t, together || u == t);
            }
        }
    }

    private static void nestedWithNoTypes() {
        DUE.sentence("10: Whether both are types");
        for (int no : Numbers.manyNoTypes()) {
            askNestmates(no, no, false);
            for (int t : AT_EDGES) {
                askNestmates(no, t, false);
                askNestmates(t, no, false);
            }
        }
    }

    private static void askAllRelated(int what, int[][] due) {
        for (int[] pair : due) {
            askRelated(pair[0], what, pair[1]);
        }
    }

    private static void askRelated(int t, int what, int want) {
        DUE.is("related(" + t + ", " + what + ")", new ClassProbe().related(t, what), want);
    }

    private static void askInterface(int t, int k, int want) {
        DUE.is("interfaceOf(" + t + ", " + k + ")", new ClassProbe().interfaceOf(t, k), want);
    }

    private static void askInto(int u, int t, boolean want) {
        DUE.is("goesInto(" + u + ", " + t + ")", new ClassProbe().goesInto(u, t), want);
    }

    private static void askSubclass(int u, int t, int want) {
        DUE.is("asSubclass(" + u + ", " + t + ")", new ClassProbe().asSubclass(u, t), want);
    }

    private static void askNestmates(int u, int t, boolean want) {
        DUE.is("nestmates(" + u + ", " + t + ")", new ClassProbe().nestmates(u, t), want);
    }
}
