/** Promises 1 (empty SLOTS), 14 (put), 15 (typeOf), 16 (isOf), 17 (cast), 18 (light) and 19 (alike). */
public final class SlotsTest {
    private static final int REFUSED = ClassProbe.REFUSED;
    private static final int NULL = ClassProbe.NULL;
    private static final int DONE = ClassProbe.DONE;

    private static final Due DUE = new Due();

    public static void main(String[] args) {
        askNewObject();
        for (int t : Numbers.allTypes()) {
            askPut(t);
            askTypesOfThing(t);
            askAlikeOfOneType(t);
        }
        askNullAgain();
        askCastOfNull();
        askAlikeOfTwoTypes();
        askOtherSlotsStay();
        askWrongTypes();
        askWrongSlots();
        askObjectsApart();
        DUE.end();
    }

    private static void askNewObject() {
        ClassProbe x = new ClassProbe();
        for (int slot = 0; slot <= 7; slot++) {
            DUE.is("typeOf(" + slot + ") at first", x.typeOf(slot), NULL);
            DUE.is("light(" + slot + ") at first", x.light(slot), NULL);
            DUE.is("isOf(" + slot + ", 9) at first", x.isOf(slot, 9), false);
            DUE.is("cast(" + slot + ", 9) at first", x.cast(slot, 9), DONE);
            for (int other = 0; other <= 7; other++) {
                DUE.is("alike(" + slot + ", " + other + ") at first", x.alike(slot, other), true);
            }
        }
        DUE.is("types(0) at first", x.types(0), 0);
        DUE.is("find() at first", x.find(), REFUSED);
    }

    private static boolean hasThings(int t) {
        return t >= 40 || Numbers.isAmong(t, 9, 11, 14, 15, 16, 17, 18, 19, 22, 23, 24);
    }

    private static void askPut(int t) {
        ClassProbe x = new ClassProbe();
        for (int slot = 0; slot <= 7; slot++) {
            String call = "put(" + slot + ", " + t + ")";
            DUE.is(call, x.put(slot, t), hasThings(t) ? DONE : NULL);
            DUE.is("typeOf after " + call, x.typeOf(slot), hasThings(t) ? t : NULL);
            DUE.is("light after " + call, x.light(slot), dueLight(t));
            DUE.is("put(" + slot + ", 15)", x.put(slot, 15), DONE);
            DUE.is(call + " again", x.put(slot, t), hasThings(t) ? DONE : NULL);
            DUE.is("typeOf after " + call + " again", x.typeOf(slot), hasThings(t) ? t : 15);
        }
    }

    private static int dueLight(int t) {
        switch (t) {
            case 14:
                return 114;
            case 16:
                return 1;
            case 17:
                return 12;
            default:
                return hasThings(t) ? ClassProbe.OTHER : NULL;
        }
    }

    /** isOf and cast go by GOES INTO, which RelationsTest asks in full. */
    private static void askTypesOfThing(int thing) {
        if (!hasThings(thing)) {
            return;
        }
        ClassProbe x = new ClassProbe();
        int slot = thing % 8;
        x.put(slot, thing);
        for (int t : Numbers.allTypes()) {
            boolean into = x.goesInto(thing, t);
            DUE.is("isOf(a thing of " + thing + ", " + t + ")", x.isOf(slot, t), into);
            DUE.is("cast(a thing of " + thing + ", " + t + ")", x.cast(slot, t), into ? DONE : ClassProbe.CAST);
        }
        DUE.is("isOf(a thing of " + thing + ", itself)", x.isOf(slot, thing), true);
        DUE.is("isOf(a thing of " + thing + ", 9)", x.isOf(slot, 9), true);
        DUE.is("isOf(a thing of " + thing + ", 4)", x.isOf(slot, 4), false);
        DUE.is("typeOf after casts", x.typeOf(slot), thing);
    }

    private static void askAlikeOfOneType(int t) {
        if (!hasThings(t)) {
            return;
        }
        ClassProbe x = new ClassProbe();
        x.put(2, t);
        x.put(7, t);
        boolean all = Numbers.isAmong(t, 11, 14, 16, 17, 23, 24);
        DUE.is("alike(2, 7) of " + t, x.alike(2, 7), all);
        DUE.is("alike(7, 2) of " + t, x.alike(7, 2), all);
        DUE.is("alike(2, 2) of " + t, x.alike(2, 2), true);
        DUE.is("alike(2, 3) of " + t + " and null", x.alike(2, 3), false);
        DUE.is("alike(3, 2) of null and " + t, x.alike(3, 2), false);
        DUE.is("put(2, " + t + ") again", x.put(2, t), DONE);
        DUE.is("alike(2, 7) of " + t + " again", x.alike(2, 7), all);
    }

    private static void askNullAgain() {
        ClassProbe x = new ClassProbe();
        DUE.is("put(5, -1) at first", x.put(5, -1), DONE);
        DUE.is("put(5, 14)", x.put(5, 14), DONE);
        DUE.is("put(5, 21)", x.put(5, 21), NULL);
        DUE.is("light(5)", x.light(5), 114);
        DUE.is("put(5, -1)", x.put(5, -1), DONE);
        DUE.is("typeOf(5)", x.typeOf(5), NULL);
        DUE.is("light(5)", x.light(5), NULL);
        DUE.is("isOf(5, 14)", x.isOf(5, 14), false);
        DUE.is("cast(5, 15)", x.cast(5, 15), DONE);
        DUE.is("alike(5, 0)", x.alike(5, 0), true);
    }

    private static void askCastOfNull() {
        ClassProbe x = new ClassProbe();
        for (int t : Numbers.allTypes()) {
            DUE.is("cast(null, " + t + ")", x.cast(3, t), DONE);
            DUE.is("isOf(null, " + t + ")", x.isOf(3, t), false);
        }
    }

    private static void askAlikeOfTwoTypes() {
        ClassProbe x = new ClassProbe();
        int[] things = {9, 11, 14, 16, 17, 23, 24, 54};
        for (int slot = 0; slot <= 7; slot++) {
            x.put(slot, things[slot]);
        }
        for (int a = 0; a <= 7; a++) {
            for (int b = 0; b <= 7; b++) {
                DUE.is("alike of " + things[a] + " and " + things[b], x.alike(a, b), a == b);
            }
        }
    }

    private static void askOtherSlotsStay() {
        ClassProbe x = new ClassProbe();
        int[] things = {104, 9, 22, 40, 64, 80, 18, 19};
        for (int slot = 0; slot <= 7; slot++) {
            x.put(slot, things[slot]);
        }
        for (int slot = 0; slot <= 7; slot++) {
            DUE.is("typeOf(" + slot + ")", x.typeOf(slot), things[slot]);
        }
        x.put(4, -1);
        for (int slot = 0; slot <= 7; slot++) {
            DUE.is("typeOf(" + slot + ") later", x.typeOf(slot), slot == 4 ? NULL : things[slot]);
        }
    }

    private static void askWrongTypes() {
        for (int t : Numbers.NO_TYPES) {
            ClassProbe x = new ClassProbe();
            x.put(1, 15);
            for (int slot = 0; slot <= 1; slot++) {
                if (t != -1) {
                    DUE.is("put(" + slot + ", " + t + ")", x.put(slot, t), REFUSED);
                }
                DUE.is("isOf(" + slot + ", " + t + ")", x.isOf(slot, t), false);
                DUE.is("cast(" + slot + ", " + t + ")", x.cast(slot, t), REFUSED);
                DUE.is("typeOf(" + slot + ") after no type", x.typeOf(slot), slot == 1 ? 15 : NULL);
            }
        }
    }

    private static void askWrongSlots() {
        for (int no : Numbers.NO_SLOTS) {
            ClassProbe x = new ClassProbe();
            int[] types = {-1, 9, 14, 10, 4, 49, 48, 25};
            for (int t : types) {
                DUE.is("put(" + no + ", " + t + ")", x.put(no, t), REFUSED);
                DUE.is("isOf(" + no + ", " + t + ")", x.isOf(no, t), false);
                DUE.is("cast(" + no + ", " + t + ")", x.cast(no, t), REFUSED);
            }
            DUE.is("typeOf(" + no + ")", x.typeOf(no), REFUSED);
            DUE.is("light(" + no + ")", x.light(no), REFUSED);
            DUE.is("alike(" + no + ", 0)", x.alike(no, 0), false);
            DUE.is("alike(0, " + no + ")", x.alike(0, no), false);
            DUE.is("alike(" + no + ", " + no + ")", x.alike(no, no), false);
            for (int slot = 0; slot <= 7; slot++) {
                DUE.is("typeOf(" + slot + ") after wrong ones", x.typeOf(slot), NULL);
            }
        }
    }

    /** What one object holds is not seen by another. */
    private static void askObjectsApart() {
        ClassProbe x = new ClassProbe();
        x.put(0, 14);
        x.type('[');
        ClassProbe y = new ClassProbe();
        DUE.is("typeOf(0) of a second object", y.typeOf(0), NULL);
        DUE.is("type(I) of a second object", y.type('I'), 1);
        DUE.is("typeOf(0) of the first", x.typeOf(0), 14);
        DUE.is("type(I) of the first", x.type('I'), 2);
        DUE.is("find() of the first", x.find(), 44);
    }
}
