/** What the document says of the numbers of types, asked by every call that takes one. */
public final class EdgesOfTypesTest {
    private static final int REFUSED = ClassProbe.REFUSED;

    private static final Due DUE = new Due();

    public static void main(String[] args) {
        plainTypes();
        arrays();
        arraysOfArrays();
        arraysOfVoid();
        otherNumbers();
        DUE.end();
    }

    private static void plainTypes() {
        DUE.sentence("Terms: TYPES 0 .. 24 are the PLAIN ones");
        askIsNoType(-1);
        for (int t = 0; t <= 24; t++) {
            askIsType(t, 0);
        }
        askIsNoType(25);
    }

    private static void arrays() {
        DUE.sentence("Terms: TYPE 40 + t is the array of type t");
        askIsNoType(39);
        for (int t = 0; t <= 24; t++) {
            if (t != 8) {
                askIsType(40 + t, 1);
                DUE.is("related(" + (40 + t) + ", 1)", new ClassProbe().related(40 + t, 1), t);
            }
        }
        askIsNoType(65);
    }

    private static void arraysOfArrays() {
        DUE.sentence("Terms: 80 + t the array of arrays of it");
        askIsNoType(79);
        for (int t = 0; t <= 24; t++) {
            if (t != 8) {
                askIsType(80 + t, 2);
                DUE.is("related(" + (80 + t) + ", 1)", new ClassProbe().related(80 + t, 1), 40 + t);
            }
        }
        askIsNoType(105);
    }

    private static void arraysOfVoid() {
        DUE.sentence("Terms: (t any PLAIN type but 8)");
        askIsType(8, 0);
        askIsType(47, 1);
        askIsNoType(48);
        askIsType(49, 1);
        askIsType(87, 2);
        askIsNoType(88);
        askIsType(89, 2);
    }

    private static void otherNumbers() {
        DUE.sentence("Terms: Other numbers are no types.");
        for (int no : Numbers.manyNoTypes()) {
            askIsNoType(no);
        }
    }

    /** The name of an array, and of nothing else here, begins with as many [ as it has levels. */
    private static void askIsType(int t, int levels) {
        ClassProbe x = new ClassProbe();
        DUE.is("size(" + t + ", 0) is above 0", x.size(t, 0) > 0, true);
        DUE.is("letter(" + t + ", 0, 0) is [", x.letter(t, 0, 0) == '[', levels > 0);
        DUE.is("letter(" + t + ", 0, 1) is [", x.letter(t, 0, 1) == '[', levels > 1);
        DUE.is("letter(" + t + ", 0, 2) is [", x.letter(t, 0, 2) == '[', false);
        DUE.is("flag(" + t + ", 0)", x.flag(t, 0), levels > 0);
        DUE.is("number(" + t + ", 0) is REFUSED", x.number(t, 0) == REFUSED, false);
        DUE.is("related(" + t + ", 0) is REFUSED", x.related(t, 0) == REFUSED, false);
        DUE.is("interfaceOf(" + t + ", 0) is REFUSED", x.interfaceOf(t, 0) == REFUSED, false);
        DUE.is("goesInto(" + t + ", " + t + ")", x.goesInto(t, t), true);
        DUE.is("asSubclass(" + t + ", " + t + ")", x.asSubclass(t, t), t);
        DUE.is("nestmates(" + t + ", " + t + ")", x.nestmates(t, t), true);
        DUE.is("cast(0, " + t + ")", x.cast(0, t), ClassProbe.DONE);
        DUE.is("put(0, " + t + ") is REFUSED", x.put(0, t) == REFUSED, false);
    }

    private static void askIsNoType(int no) {
        ClassProbe x = new ClassProbe();
        DUE.is("size(" + no + ", 0)", x.size(no, 0), REFUSED);
        DUE.is("letter(" + no + ", 0, 0)", x.letter(no, 0, 0), REFUSED);
        for (int what = 0; what <= 10; what++) {
            DUE.is("flag(" + no + ", " + what + ")", x.flag(no, what), false);
        }
        DUE.is("number(" + no + ", 0)", x.number(no, 0), REFUSED);
        DUE.is("related(" + no + ", 0)", x.related(no, 0), REFUSED);
        DUE.is("interfaceOf(" + no + ", 0)", x.interfaceOf(no, 0), REFUSED);
        DUE.is("goesInto(" + no + ", " + no + ")", x.goesInto(no, no), false);
        DUE.is("asSubclass(" + no + ", " + no + ")", x.asSubclass(no, no), REFUSED);
        DUE.is("nestmates(" + no + ", " + no + ")", x.nestmates(no, no), false);
        DUE.is("cast(0, " + no + ")", x.cast(0, no), REFUSED);
        // put alone takes -1, which asks it for a null.
        DUE.is("put(0, " + no + ")", x.put(0, no), no == -1 ? ClassProbe.DONE : REFUSED);
        x.put(0, 104);
        DUE.is("isOf(0, " + no + ")", x.isOf(0, no), false);
        DUE.is("cast(0, " + no + ") of a thing", x.cast(0, no), REFUSED);
    }
}
