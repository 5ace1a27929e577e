import java.util.List;

/** The section 'Terms', sentence by sentence: what each type is, what is above it and what it stands in. */
public final class TermsOfTypesTest {
    private static final int NULL = ClassProbe.NULL;
    private static final int OTHER = ClassProbe.OTHER;
    /** The access modifiers: public, private, protected. */
    private static final int ACCESS = 1 + 2 + 4;

    private static final Due DUE = new Due();

    public static void main(String[] args) {
        primitiveTypes();
        typesOfTheLibrary();
        thisClass();
        nestedInIt();
        mark();
        shape();
        circle();
        square();
        color();
        green();
        inner();
        deep();
        note();
        box();
        tall();
        local();
        task();
        accessThatIsNotTold();
        namelessAndNoMembers();
        members();
        classesUp();
        interfaces();
        DUE.end();
    }

    private static void primitiveTypes() {
        DUE.sentence("0 .. 7 boolean, byte, char, short, int, long, float, double and 8 void are PRIMITIVE");
        List<String> names = List.of("boolean", "byte", "char", "short", "int", "long", "float", "double", "void");
        for (int t = 0; t <= 24; t++) {
            flag(t, 1, t <= 8);
            if (t <= 8) {
                text(t, 0, names.get(t));
            }
        }
    }

    private static void typesOfTheLibrary() {
        DUE.sentence("9 java.lang.Object and 10 java.lang.Runnable (an interface) are public");
        text(9, 0, "java.lang.Object");
        flag(9, 2, false);
        access(9, 1);
        text(10, 0, "java.lang.Runnable");
        flag(10, 2, true);
        access(10, 1);
    }

    private static void thisClass() {
        DUE.sentence("11 ClassProbe is this class, public and final");
        text(11, 0, ClassProbe.class.getName());
        number(11, 0, ClassProbe.class.getModifiers());
        text(11, 7, "public final");
    }

    private static void nestedInIt() {
        DUE.sentence("12 .. 24 are nested in it");
        for (int t : Numbers.allTypes()) {
            boolean nested = Numbers.within(t, 12, 24);
            boolean inIt = new ClassProbe().related(t, 4) == 11;
            DUE.is("the outermost class of " + t + " is 11", inIt, nested || t == 11);
            DUE.is("nestmates(11, " + t + ")", new ClassProbe().nestmates(11, t), nested || t == 11);
            DUE.is("12 .. 24 stand in a class: " + t, new ClassProbe().related(t, 2) >= 0, nested);
        }
    }

    private static void mark() {
        DUE.sentence("12 Mark, an interface");
        kind(12, "Mark", "an interface", 8 + 512 + 1024);
        interfacesOf(12);
    }

    private static void shape() {
        DUE.sentence("13 Shape, a sealed interface that permits 14 and 15");
        kind(13, "Shape", "an interface", 8 + 512 + 1024);
        flag(13, 6, true);
        number(13, 5, 2);
        for (int t = 0; t <= 24; t++) {
            DUE.is("goesInto(" + t + ", 13)", new ClassProbe().goesInto(t, 13), Numbers.within(t, 13, 15));
        }
    }

    private static void circle() {
        DUE.sentence("14 Circle, a record (of one part, an int) and a Shape");
        kind(14, "Circle", "a class", 8 + 16);
        flag(14, 5, true);
        number(14, 4, 1);
        interfacesOf(14, 13);
    }

    private static void square() {
        DUE.sentence("15 Square, a static final class, a Shape and a Mark (in this order)");
        kind(15, "Square", "a class", 8 + 16);
        interfacesOf(15, 13, 12);
    }

    private static void color() {
        DUE.sentence("16 Color, an enum with two constants, RED and GREEN, the latter with a body");
        kind(16, "Color", "a class", 8 + 16384);
        flag(16, 4, true);
        number(16, 3, 2);
        ClassProbe x = new ClassProbe();
        x.put(0, 16);
        x.put(1, 17);
        DUE.is("typeOf(RED), which has no body", x.typeOf(0), 16);
        DUE.is("typeOf(GREEN)", x.typeOf(1), 17);
        DUE.is("isOf(RED, 16)", x.isOf(0, 16), true);
        DUE.is("isOf(RED, 17)", x.isOf(0, 17), false);
        DUE.is("isOf(GREEN, 16)", x.isOf(1, 16), true);
        DUE.is("alike(RED, GREEN)", x.alike(0, 1), false);
    }

    private static void green() {
        DUE.sentence("17 the nameless class of GREEN, in Color");
        kind(17, "", "a class", 16 + 16384);
        flag(17, 7, true);
        flag(17, 4, false);
        related(17, 0, 16);
        related(17, 2, 16);
        related(17, 3, NULL);
    }

    private static void inner() {
        DUE.sentence("18 Inner, a private class (not static)");
        kind(18, "Inner", "a class", 2);
        related(18, 2, 11);
        number(18, 6, 1);
    }

    private static void deep() {
        DUE.sentence("19 Deep, a protected class (not static) in Inner");
        kind(19, "Deep", "a class", 4);
        related(19, 2, 18);
        related(19, 3, 18);
    }

    private static void note() {
        DUE.sentence("20 Note, an annotation interface");
        kind(20, "Note", "an interface", 8 + 512 + 1024 + 8192);
        flag(20, 3, true);
        interfacesOf(20, OTHER);
    }

    private static void box() {
        DUE.sentence("21 Box, an abstract static class with one type parameter, a Comparable");
        kind(21, "Box", "a class", 8 + 1024);
        number(21, 2, 1);
        interfacesOf(21, OTHER);
        DUE.is("put(0, 21), for it is abstract", new ClassProbe().put(0, 21), NULL);
    }

    private static void tall() {
        DUE.sentence("22 Tall, a static class that is a Box of String");
        kind(22, "Tall", "a class", 8);
        related(22, 0, 21);
        number(22, 2, 0);
        interfacesOf(22);
    }

    private static void local() {
        DUE.sentence("23 Local, a class in a method, a Tall and a Mark");
        kind(23, "Local", "a class", 0);
        flag(23, 8, true);
        flag(23, 10, true);
        related(23, 0, 22);
        related(23, 2, 11);
        interfacesOf(23, 12);
    }

    private static void task() {
        DUE.sentence("24 a nameless class in that method, a Runnable");
        kind(24, "", "a class", 0);
        flag(24, 7, true);
        flag(24, 8, false);
        flag(24, 10, true);
        related(24, 2, 11);
        interfacesOf(24, 10);
    }

    private static void accessThatIsNotTold() {
        DUE.sentence("Where no access is told it is that of the package.");
        for (int t = 12; t <= 24; t++) {
            access(t, t == 18 ? 2 : t == 19 ? 4 : 0);
        }
    }

    private static void namelessAndNoMembers() {
        DUE.sentence("17 and 24 are NAMELESS, 23 and these two are of no type as MEMBERS");
        for (int t = 12; t <= 24; t++) {
            flag(t, 7, t == 17 || t == 24);
            DUE.is("size(" + t + ", 1) is 0", new ClassProbe().size(t, 1) == 0, t == 17 || t == 24);
        }
        int[] noMembers = {17, 23, 24};
        for (int t : noMembers) {
            flag(t, 9, false);
            related(t, 3, NULL);
        }
    }

    private static void members() {
        DUE.sentence("the others from 12 on are MEMBERS of the class they stand in, 19 of Inner, else ClassProbe");
        int[] counts = new int[25];
        for (int t = 12; t <= 24; t++) {
            if (!Numbers.isAmong(t, 17, 23, 24)) {
                int in = t == 19 ? 18 : 11;
                flag(t, 9, true);
                related(t, 3, in);
                related(t, 2, in);
                counts[in]++;
            }
        }
        for (int t = 0; t <= 24; t++) {
            number(t, 6, counts[t]);
        }
    }

    private static void classesUp() {
        DUE.sentence("THE CLASS UP of a type: of 9, 10, PRIMITIVE types and interfaces none");
        for (int t = 0; t <= 24; t++) {
            boolean none = t <= 10 || new ClassProbe().flag(t, 2);
            DUE.is("related(" + t + ", 0) is NULL", new ClassProbe().related(t, 0) == NULL, none);
        }
        DUE.sentence("THE CLASS UP of .. 14 java.lang.Record and of 16 java.lang.Enum, which are OTHER");
        for (int t : Numbers.allTypes()) {
            DUE.is("related(" + t + ", 0) is OTHER", new ClassProbe().related(t, 0) == OTHER, t == 14 || t == 16);
        }
        DUE.sentence("THE CLASS UP .. of 17 it is 16, of 22 21, of 23 22");
        related(17, 0, 16);
        related(22, 0, 21);
        related(23, 0, 22);
        DUE.sentence("THE CLASS UP .. of the other classes and of all arrays 9");
        int[] classes = {11, 15, 18, 19, 21, 24};
        for (int t : classes) {
            related(t, 0, 9);
        }
        for (int t : Numbers.allTypes()) {
            if (t >= 40) {
                related(t, 0, 9);
            }
        }
    }

    private static void interfaces() {
        DUE.sentence("THE INTERFACES .. of 14 it is 13; of 15 13, 12; of 20 one that is OTHER .. of 23 12; of 24 10");
        interfacesOf(14, 13);
        interfacesOf(15, 13, 12);
        interfacesOf(20, OTHER);
        interfacesOf(21, OTHER);
        interfacesOf(23, 12);
        interfacesOf(24, 10);
        DUE.sentence("THE INTERFACES .. of arrays two that are OTHER (Cloneable, Serializable); of others none.");
        for (int t : Numbers.allTypes()) {
            if (t >= 40) {
                interfacesOf(t, OTHER, OTHER);
            } else if (!Numbers.isAmong(t, 14, 15, 20, 21, 23, 24)) {
                interfacesOf(t);
            }
        }
    }

    /** What a sentence on one nested type tells first: what it is called, what it is, and its modifiers. */
    private static void kind(int t, String own, String what, int modifiers) {
        text(t, 1, own);
        flag(t, 2, what.equals("an interface"));
        flag(t, 0, false);
        flag(t, 1, false);
        number(t, 0, modifiers);
    }

    private static void interfacesOf(int t, int... all) {
        number(t, 1, all.length);
        for (int k = -1; k <= all.length; k++) {
            int want = k >= 0 && k < all.length ? all[k] : NULL;
            DUE.is("interfaceOf(" + t + ", " + k + ")", new ClassProbe().interfaceOf(t, k), want);
        }
    }

    private static void access(int t, int want) {
        DUE.is("the access of " + t, new ClassProbe().number(t, 0) & ACCESS, want);
    }

    private static void flag(int t, int what, boolean want) {
        DUE.is("flag(" + t + ", " + what + ")", new ClassProbe().flag(t, what), want);
    }

    private static void number(int t, int what, int want) {
        DUE.is("number(" + t + ", " + what + ")", new ClassProbe().number(t, what), want);
    }

    private static void related(int t, int what, int want) {
        DUE.is("related(" + t + ", " + what + ")", new ClassProbe().related(t, what), want);
    }

    private static void text(int t, int which, String want) {
        DUE.is("text " + which + " of " + t, String.valueOf(Texts.read(t, which)), String.valueOf(want));
    }
}
