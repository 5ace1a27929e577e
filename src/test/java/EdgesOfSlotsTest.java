/** The edges of promises 1 (empty SLOTS) and 14 to 19 (put, typeOf, isOf, cast, light, alike), sentence by sentence. */
public final class EdgesOfSlotsTest {
    private static final int REFUSED = ClassProbe.REFUSED;
    private static final int NULL = ClassProbe.NULL;
    private static final int DONE = ClassProbe.DONE;
    private static final int OTHER = ClassProbe.OTHER;
    private static final int CAST = ClassProbe.CAST;
    private static final int[] NO_SLOTS = Numbers.outside(0, 7);
    private static final int[] WITHOUT_THINGS = {0, 1, 2, 3, 4, 5, 6, 7, 8, 10, 12, 13, 20, 21};
    private static final int[] WITH_THINGS = {
        9, 11, 14, 15, 16, 17, 18, 19, 22, 23, 24, 40, 47, 49, 50, 52, 53, 60, 61, 64, 80, 87, 89, 90, 100, 101, 104
    };

    private static final Due DUE = new Due();

    public static void main(String[] args) {
        nullAtFirst();
        putInEverySlot();
        putOfThingsThereAreNone();
        putOfNull();
        putInNoSlot();
        putOfNoType();
        typeOfNull();
        typeOfNoSlot();
        isOfNull();
        isOfNoSlot();
        isOfNoType();
        castOfNull();
        castOfThings();
        castOfNoSlot();
        castOfNoType();
        lights();
        lightOfNull();
        lightOfNoSlot();
        alikeNulls();
        alikeSame();
        alikeCircles();
        alikeOthers();
        alikeOutOfRange();
        DUE.end();
    }

    private static void nullAtFirst() {
        DUE.sentence("1 and Terms: SLOTS 0 .. 7 each hold a thing or null (at first).");
        for (int slot = 0; slot <= 7; slot++) {
            DUE.is("typeOf(" + slot + ") at first", new ClassProbe().typeOf(slot), NULL);
            DUE.is("light(" + slot + ") at first", new ClassProbe().light(slot), NULL);
            DUE.is("isOf(" + slot + ", 9) at first", new ClassProbe().isOf(slot, 9), false);
            DUE.is("cast(" + slot + ", 14) at first", new ClassProbe().cast(slot, 14), DONE);
        }
        DUE.is("alike(0, 7) at first", new ClassProbe().alike(0, 7), true);
    }

    private static void putInEverySlot() {
        DUE.sentence("14: The SLOT (0 .. 7) gets a new thing of the type .. DONE.");
        for (int t : WITH_THINGS) {
            for (int slot = 0; slot <= 7; slot++) {
                ClassProbe x = new ClassProbe();
                DUE.is("put(" + slot + ", " + t + ")", x.put(slot, t), DONE);
                for (int other = 0; other <= 7; other++) {
                    DUE.is("typeOf(" + other + ") then", x.typeOf(other), other == slot ? t : NULL);
                }
            }
        }
    }

    private static void putOfThingsThereAreNone() {
        DUE.sentence("14: of the others there are none: NULL (the SLOT stays).");
        for (int t : WITHOUT_THINGS) {
            for (int slot = 0; slot <= 7; slot++) {
                ClassProbe x = new ClassProbe();
                DUE.is("put(" + slot + ", " + t + ")", x.put(slot, t), NULL);
                DUE.is("typeOf(" + slot + ") that was null", x.typeOf(slot), NULL);
                x.put(slot, 17);
                DUE.is("put(" + slot + ", " + t + ") on GREEN", x.put(slot, t), NULL);
                DUE.is("light(" + slot + ") that was GREEN", x.light(slot), 12);
            }
        }
    }

    private static void putOfNull() {
        DUE.sentence("14: With t = -1 it becomes null.");
        for (int slot = 0; slot <= 7; slot++) {
            ClassProbe x = new ClassProbe();
            DUE.is("put(" + slot + ", -1) on null", x.put(slot, -1), DONE);
            DUE.is("typeOf(" + slot + ")", x.typeOf(slot), NULL);
            x.put(slot, 104);
            DUE.is("put(" + slot + ", -1) on a thing", x.put(slot, -1), DONE);
            DUE.is("typeOf(" + slot + ")", x.typeOf(slot), NULL);
            DUE.is("put(" + slot + ", -1) again", x.put(slot, -1), DONE);
        }
    }

    /** Whatever the type: one that has things, one that has none, null, and no type. */
    private static void putInNoSlot() {
        DUE.sentence("14: No such SLOT .. : REFUSED.");
        int[] types = {-2, -1, 0, 9, 10, 14, 25, 48, 104, 105};
        for (int no : NO_SLOTS) {
            for (int t : types) {
                ClassProbe x = new ClassProbe();
                DUE.is("put(" + no + ", " + t + ")", x.put(no, t), REFUSED);
                for (int slot = 0; slot <= 7; slot++) {
                    DUE.is("typeOf(" + slot + ") then", x.typeOf(slot), NULL);
                }
            }
        }
    }

    private static void putOfNoType() {
        DUE.sentence("14: No such .. type: REFUSED.");
        for (int no : Numbers.manyNoTypes()) {
            if (no != -1) {
                ClassProbe x = new ClassProbe();
                DUE.is("put(0, " + no + ")", x.put(0, no), REFUSED);
                DUE.is("typeOf(0) that was null", x.typeOf(0), NULL);
                x.put(7, 16);
                DUE.is("put(7, " + no + ")", x.put(7, no), REFUSED);
                DUE.is("light(7) that was RED", x.light(7), 1);
            }
        }
    }

    private static void typeOfNull() {
        DUE.sentence("15: NULL if it's null");
        for (int slot = 0; slot <= 7; slot++) {
            ClassProbe x = benchOf(14);
            x.put(slot, -1);
            for (int other = 0; other <= 7; other++) {
                DUE.is("typeOf(" + other + ")", x.typeOf(other), other == slot ? NULL : 14);
            }
        }
    }

    private static void typeOfNoSlot() {
        DUE.sentence("15: REFUSED (no such SLOT)");
        for (int no : NO_SLOTS) {
            DUE.is("typeOf(" + no + ") at first", new ClassProbe().typeOf(no), REFUSED);
            DUE.is("typeOf(" + no + ") with things", benchOf(14).typeOf(no), REFUSED);
        }
    }

    private static void isOfNull() {
        DUE.sentence("16: Whether the SLOT holds a thing (not null)");
        for (int t : Numbers.allTypes()) {
            DUE.is("isOf(0, " + t + ")", new ClassProbe().isOf(0, t), false);
            DUE.is("isOf(7, " + t + ")", new ClassProbe().isOf(7, t), false);
        }
    }

    private static void isOfNoSlot() {
        DUE.sentence("16: Whether the SLOT holds a thing (no such SLOT)");
        for (int no : NO_SLOTS) {
            for (int t : Numbers.allTypes()) {
                DUE.is("isOf(" + no + ", " + t + ")", benchOf(14).isOf(no, t), false);
            }
        }
        DUE.is("isOf(0, 13)", benchOf(14).isOf(0, 13), true);
        DUE.is("isOf(7, 13)", benchOf(14).isOf(7, 13), true);
    }

    private static void isOfNoType() {
        DUE.sentence("16: a thing whose type GOES INTO t (t no type)");
        for (int no : Numbers.manyNoTypes()) {
            DUE.is("isOf(null, " + no + ")", new ClassProbe().isOf(0, no), false);
            DUE.is("isOf(a Circle, " + no + ")", benchOf(14).isOf(0, no), false);
            DUE.is("isOf(an array, " + no + ")", benchOf(104).isOf(7, no), false);
        }
    }

    private static void castOfNull() {
        DUE.sentence("17: DONE if the SLOT holds null");
        for (int t : Numbers.allTypes()) {
            DUE.is("cast(0, " + t + ")", new ClassProbe().cast(0, t), DONE);
            DUE.is("cast(7, " + t + ")", new ClassProbe().cast(7, t), DONE);
        }
    }

    private static void castOfThings() {
        DUE.sentence("17: DONE if the SLOT holds .. a thing whose type GOES INTO t; else CAST");
        int[][] due = {
            {14, 14, DONE}, {14, 13, DONE}, {14, 9, DONE}, {14, 12, CAST}, {14, 15, CAST}, {14, 0, CAST}, {14, 8, CAST},
            {14, 54, CAST}, {23, 12, DONE}, {23, 21, DONE}, {23, 24, CAST}, {44, 44, DONE}, {44, 9, DONE},
            {44, 49, CAST}, {44, 4, CAST}, {84, 49, DONE}, {84, 89, CAST}, {104, 90, DONE}, {9, 9, DONE},
            {9, 10, CAST}, {11, 11, DONE}, {11, 12, CAST}, {16, 17, CAST}, {17, 16, DONE}
        };
        for (int[] row : due) {
            String pair = "(a thing of " + row[0] + ", " + row[1] + ")";
            DUE.is("cast" + pair, benchOf(row[0]).cast(7, row[1]), row[2]);
            DUE.is("isOf" + pair, benchOf(row[0]).isOf(7, row[1]), row[2] == DONE);
        }
    }

    private static void castOfNoSlot() {
        DUE.sentence("17: REFUSED (no such SLOT)");
        for (int no : NO_SLOTS) {
            for (int t : Numbers.allTypes()) {
                DUE.is("cast(" + no + ", " + t + ")", benchOf(14).cast(no, t), REFUSED);
            }
            DUE.is("cast(" + no + ", 9) at first", new ClassProbe().cast(no, 9), REFUSED);
            DUE.is("cast(" + no + ", 25)", new ClassProbe().cast(no, 25), REFUSED);
        }
    }

    /** The document does not say that a null goes first: no type is REFUSED with null too. */
    private static void castOfNoType() {
        DUE.sentence("17: REFUSED (no type)");
        for (int no : Numbers.manyNoTypes()) {
            DUE.is("cast(null, " + no + ")", new ClassProbe().cast(0, no), REFUSED);
            DUE.is("cast(a Circle, " + no + ")", benchOf(14).cast(7, no), REFUSED);
        }
    }

    private static void lights() {
        DUE.sentence("18: RED: 1; GREEN: 12; a Circle: 114; .. another thing: OTHER");
        for (int t : WITH_THINGS) {
            int want = t == 16 ? 1 : t == 17 ? 12 : t == 14 ? 114 : OTHER;
            for (int slot = 0; slot <= 7; slot++) {
                DUE.is("light(" + slot + ") of " + t, benchOf(t).light(slot), want);
            }
        }
        int[] arrays = {54, 56, 57, 94, 96, 97};
        for (int t : arrays) {
            DUE.is("light of " + t, benchOf(t).light(0), OTHER);
        }
    }

    private static void lightOfNull() {
        DUE.sentence("18: null: NULL");
        for (int slot = 0; slot <= 7; slot++) {
            ClassProbe x = benchOf(16);
            x.put(slot, -1);
            for (int other = 0; other <= 7; other++) {
                DUE.is("light(" + other + ")", x.light(other), other == slot ? NULL : 1);
            }
        }
    }

    private static void lightOfNoSlot() {
        DUE.sentence("18: no such SLOT: REFUSED");
        for (int no : NO_SLOTS) {
            DUE.is("light(" + no + ") at first", new ClassProbe().light(no), REFUSED);
            DUE.is("light(" + no + ") with things", benchOf(16).light(no), REFUSED);
        }
    }

    private static void alikeNulls() {
        DUE.sentence("19: Whether both SLOTS hold null");
        for (int a = 0; a <= 7; a++) {
            for (int b = 0; b <= 7; b++) {
                DUE.is("alike(" + a + ", " + b + ") of nulls", new ClassProbe().alike(a, b), true);
                ClassProbe x = new ClassProbe();
                x.put(a, 14);
                DUE.is("alike(" + a + ", " + b + ") of one Circle", x.alike(a, b), a == b);
                DUE.is("alike(" + b + ", " + a + ") of one Circle", x.alike(b, a), a == b);
                x.put(a, -1);
                DUE.is("alike(" + a + ", " + b + ") of nulls again", x.alike(a, b), true);
            }
        }
    }

    private static void alikeSame() {
        DUE.sentence("19: Whether both SLOTS hold .. the same thing");
        for (int t : WITH_THINGS) {
            ClassProbe x = benchOf(t);
            boolean one = Numbers.isAmong(t, 11, 14, 16, 17, 23, 24);
            for (int a = 0; a <= 7; a++) {
                for (int b = 0; b <= 7; b++) {
                    DUE.is("alike(" + a + ", " + b + ") of " + t, x.alike(a, b), a == b || one);
                }
            }
        }
    }

    private static void alikeCircles() {
        DUE.sentence("19: Whether both SLOTS hold .. two Circles");
        ClassProbe x = new ClassProbe();
        x.put(0, 14);
        x.put(7, 14);
        DUE.is("alike(0, 7) of Circles", x.alike(0, 7), true);
        x.put(7, 14);
        DUE.is("alike(7, 0) of a new Circle", x.alike(7, 0), true);
        x.put(7, 15);
        DUE.is("alike(0, 7) of a Circle and a Square", x.alike(0, 7), false);
        x.put(0, 15);
        DUE.is("alike(0, 7) of Squares", x.alike(0, 7), false);
        x.put(0, 54);
        x.put(7, 54);
        DUE.is("alike(0, 7) of arrays of Circles", x.alike(0, 7), false);
    }

    private static void alikeOthers() {
        DUE.sentence("19: Whether both SLOTS hold .. (things of two types)");
        int[] once = {11, 14, 16, 17, 23, 24, 9, 54};
        ClassProbe x = new ClassProbe();
        for (int slot = 0; slot <= 7; slot++) {
            x.put(slot, once[slot]);
        }
        for (int a = 0; a <= 7; a++) {
            for (int b = 0; b <= 7; b++) {
                DUE.is("alike of " + once[a] + " and " + once[b], x.alike(a, b), a == b);
            }
        }
    }

    private static void alikeOutOfRange() {
        DUE.sentence("19: false out of range");
        for (int no : NO_SLOTS) {
            for (int slot = 0; slot <= 7; slot++) {
                DUE.is("alike(" + no + ", " + slot + ") of null", new ClassProbe().alike(no, slot), false);
                DUE.is("alike(" + slot + ", " + no + ") of null", new ClassProbe().alike(slot, no), false);
                DUE.is("alike(" + no + ", " + slot + ")", benchOf(14).alike(no, slot), false);
                DUE.is("alike(" + slot + ", " + no + ")", benchOf(14).alike(slot, no), false);
            }
            for (int other : NO_SLOTS) {
                DUE.is("alike(" + no + ", " + other + ")", new ClassProbe().alike(no, other), false);
            }
        }
    }

    /** A bench with a thing of the type in every SLOT. */
    private static ClassProbe benchOf(int t) {
        ClassProbe x = new ClassProbe();
        for (int slot = 0; slot <= 7; slot++) {
            x.put(slot, t);
        }
        return x;
    }
}
