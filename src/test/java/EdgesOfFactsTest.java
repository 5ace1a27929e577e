/** The edges of promises 4 (flag) and 5 (number), sentence by sentence. */
public final class EdgesOfFactsTest {
    private static final int REFUSED = ClassProbe.REFUSED;
    private static final int NULL = ClassProbe.NULL;

    private static final Due DUE = new Due();

    public static void main(String[] args) {
        flagsOfOtherNumbers();
        flagsOfNoTypes();
        flagsAtTheirEdges();
        numbersOfNoTypes();
        otherNumbers();
        modifierEdges();
        interfaceCounts();
        othersThanTheGeneric();
        othersThanTheEnum();
        othersThanTheRecord();
        othersThanThePermitting();
        memberCounts();
        nestSizes();
        nestsThatAreRefused();
        DUE.end();
    }

    private static void flagsOfOtherNumbers() {
        DUE.sentence("4: False for another number");
        for (int t : Numbers.allTypes()) {
            for (int what : Numbers.outside(0, 10)) {
                askFlag(t, what, false);
            }
        }
    }

    private static void flagsOfNoTypes() {
        DUE.sentence("4: False for .. no type.");
        for (int no : Numbers.manyNoTypes()) {
            for (int what = -1; what <= 11; what++) {
                askFlag(no, what, false);
            }
        }
    }

    private static void flagsAtTheirEdges() {
        askFlags("0 an array", 0, new int[] {40, 47, 49, 64, 80, 87, 89, 104}, new int[] {0, 8, 9, 24});
        askFlags("1 PRIMITIVE", 1, new int[] {0, 7, 8}, new int[] {9, 24, 40, 47, 80, 87});
        askFlags("2 an interface", 2, new int[] {10, 12, 13, 20}, new int[] {9, 11, 14, 19, 21, 50, 52, 53, 60, 90});
        askFlags("3 an annotation interface", 3, new int[] {20}, new int[] {10, 12, 19, 21, 60, 100});
        askFlags("4 the enum", 4, new int[] {16}, new int[] {15, 17, 56, 57, 96});
        askFlags("5 the record", 5, new int[] {14}, new int[] {13, 15, 54, 94});
        askFlags("6 sealed (13 and 16)", 6, new int[] {13, 16}, new int[] {12, 14, 15, 17, 53, 56, 93, 96});
        askFlags("7 NAMELESS", 7, new int[] {17, 24}, new int[] {16, 18, 23, 57, 64, 97, 104});
        askFlags("8 the local class (23)", 8, new int[] {23}, new int[] {22, 24, 63, 103});
        askFlags("9 a MEMBER", 9, new int[] {12, 16, 18, 19, 22}, new int[] {8, 11, 17, 23, 24, 52, 62, 92, 102});
        askFlags("10 nested in a method (23, 24)", 10, new int[] {23, 24}, new int[] {17, 22, 63, 64, 103, 104});
    }

    private static void askFlags(String words, int what, int[] such, int[] not) {
        DUE.sentence("4: Whether the type is: " + words);
        for (int t : such) {
            askFlag(t, what, true);
        }
        for (int t : not) {
            askFlag(t, what, false);
        }
    }

    private static void numbersOfNoTypes() {
        DUE.sentence("5: No type .. : REFUSED.");
        for (int no : Numbers.manyNoTypes()) {
            for (int what = -1; what <= 8; what++) {
                askNumber(no, what, REFUSED);
            }
        }
    }

    private static void otherNumbers() {
        DUE.sentence("5: another number: REFUSED.");
        for (int t : Numbers.allTypes()) {
            for (int what : Numbers.outside(0, 7)) {
                askNumber(t, what, REFUSED);
            }
        }
    }

    private static void modifierEdges() {
        DUE.sentence("Terms: MODIFIERS, a sum of those words' numbers");
        int[][] due = {
            {0, 1041}, {8, 1041}, {9, 1}, {10, 1537}, {11, 17}, {12, 1544}, {13, 1544}, {14, 24}, {15, 24},
            {16, 16392}, {17, 16400}, {18, 2}, {19, 4}, {20, 9736}, {21, 1032}, {22, 8}, {23, 0}, {24, 0}, {40, 1041},
            {47, 1041}, {49, 1041}, {50, 1041}, {51, 1041}, {52, 1040}, {56, 1040}, {57, 1040}, {58, 1042},
            {59, 1044}, {60, 1040}, {64, 1040}, {80, 1041}, {91, 1041}, {92, 1040}, {98, 1042}, {99, 1044},
            {104, 1040}
        };
        askNumbers(0, due);
    }

    private static void interfaceCounts() {
        DUE.sentence("Terms: THE INTERFACES of a type .. of others none.");
        int[][] due = {
            {0, 0}, {8, 0}, {9, 0}, {10, 0}, {11, 0}, {12, 0}, {13, 0}, {14, 1}, {15, 2}, {16, 0}, {17, 0}, {18, 0},
            {19, 0}, {20, 1}, {21, 1}, {22, 0}, {23, 1}, {24, 1}, {40, 2}, {47, 2}, {49, 2}, {64, 2}, {80, 2}, {104, 2}
        };
        askNumbers(1, due);
    }

    private static void othersThanTheGeneric() {
        DUE.sentence("5: 2 type parameters (1 for 21, else 0)");
        for (int t : Numbers.allTypes()) {
            askNumber(t, 2, t == 21 ? 1 : 0);
        }
    }

    private static void othersThanTheEnum() {
        DUE.sentence("5: 3 constants of the enum (2; others NULL)");
        for (int t : Numbers.allTypes()) {
            askNumber(t, 3, t == 16 ? 2 : NULL);
        }
    }

    private static void othersThanTheRecord() {
        DUE.sentence("5: 4 parts of the record (1; others NULL)");
        for (int t : Numbers.allTypes()) {
            askNumber(t, 4, t == 14 ? 1 : NULL);
        }
    }

    private static void othersThanThePermitting() {
        DUE.sentence("5: 5 how many types it permits (13: 2, 16: 1, others NULL)");
        for (int t : Numbers.allTypes()) {
            askNumber(t, 5, t == 13 ? 2 : t == 16 ? 1 : NULL);
        }
    }

    private static void memberCounts() {
        DUE.sentence("5: 6 how many MEMBERS stand in it (11: 9, 18: 1, else 0)");
        for (int t : Numbers.allTypes()) {
            askNumber(t, 6, t == 11 ? 9 : t == 18 ? 1 : 0);
        }
    }

    private static void nestSizes() {
        DUE.sentence("5: 7 how many types are nested together with it, itself too (14 for 11 .. 24, else 1)");
        int[][] due = {
            {0, 1}, {8, 1}, {11, 14}, {12, 14}, {17, 14}, {23, 14}, {24, 14}, {40, 1}, {47, 1}, {51, 1}, {52, 1},
            {64, 1}, {80, 1}, {91, 1}, {104, 1}
        };
        askNumbers(7, due);
    }

    private static void nestsThatAreRefused() {
        DUE.sentence("5: 7 .. REFUSED for 9 and 10");
        int[][] due = {{8, 1}, {9, REFUSED}, {10, REFUSED}, {11, 14}, {49, 1}, {50, 1}, {89, 1}, {90, 1}};
        askNumbers(7, due);
    }

    private static void askNumbers(int what, int[][] due) {
        for (int[] pair : due) {
            askNumber(pair[0], what, pair[1]);
        }
    }

    private static void askFlag(int t, int what, boolean want) {
        DUE.is("flag(" + t + ", " + what + ")", new ClassProbe().flag(t, what), want);
    }

    private static void askNumber(int t, int what, int want) {
        DUE.is("number(" + t + ", " + what + ")", new ClassProbe().number(t, what), want);
    }
}
