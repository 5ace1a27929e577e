import java.lang.reflect.Array;
import java.lang.reflect.Modifier;
import java.nio.ByteBuffer;
import java.util.List;
import java.util.Objects;

/**
 * The calls of the document, answered by asking real class objects; the types of RealBench stand for 11 .. 24. What the
 * document refuses is written here as it says it, for no class object tells of that.
 */
final class ClassObjects {
    private static final Class<?>[] FIRST = {
        boolean.class, byte.class, char.class, short.class, int.class, long.class, float.class, double.class,
        void.class, Object.class, Runnable.class
    };
    private static final List<String> MAY_BE_ASKED = List.of("boolean", "byte", "char", "short", "int", "long", "float",
        "double", "void", "java.lang.Object", "java.lang.Runnable", "ClassProbe");

    private final RealBench bench = new RealBench();
    private final Class<?>[] classes = new Class<?>[105];
    private final Object[] slots = new Object[8];
    private final StringBuilder text = new StringBuilder();

    ClassObjects() {
        System.arraycopy(FIRST, 0, classes, 0, FIRST.length);
        System.arraycopy(bench.classes(), 0, classes, FIRST.length, 14);
        for (int t = 40; t <= 104; t++) {
            classes[t] = Numbers.isType(t) ? classes[t - 40].arrayType() : null;
        }
    }

    int letter(int t, int which, int i) {
        int size = size(t, which);
        if (size < 0) {
            return size;
        }
        return i >= 0 && i < size ? textOf(classes[t], which).charAt(i) : 0;
    }

    int size(int t, int which) {
        if (!Numbers.isType(t) || which < 0 || which > 7) {
            return ClassProbe.REFUSED;
        }
        String words = textOf(classes[t], which);
        return words == null ? ClassProbe.NULL : words.length();
    }

    private static String textOf(Class<?> c, int which) {
        String words = switch (which) {
            case 0 -> c.getName();
            case 1 -> c.getSimpleName();
            case 2 -> c.getCanonicalName();
            case 3 -> c.getTypeName();
            case 4 -> c.getPackageName();
            case 5 -> c.toString();
            case 6 -> c.descriptorString();
            default -> Modifier.toString(c.getModifiers());
        };
        return words == null ? null : words.replace("RealBench", "ClassProbe");
    }

    boolean flag(int t, int what) {
        Class<?> c = Numbers.isType(t) ? classes[t] : null;
        return c != null && switch (what) {
            case 0 -> c.isArray();
            case 1 -> c.isPrimitive();
            case 2 -> c.isInterface();
            case 3 -> c.isAnnotation();
            case 4 -> c.isEnum();
            case 5 -> c.isRecord();
            case 6 -> c.isSealed();
            case 7 -> c.isAnonymousClass();
            case 8 -> c.isLocalClass();
            case 9 -> c.isMemberClass();
            case 10 -> c.getEnclosingMethod() != null;
            default -> false;
        };
    }

    int number(int t, int what) {
        if (!Numbers.isType(t)) {
            return ClassProbe.REFUSED;
        }
        Class<?> c = classes[t];
        return switch (what) {
            case 0 -> c.getModifiers();
            case 1 -> c.getInterfaces().length;
            case 2 -> c.getTypeParameters().length;
            case 3 -> lengthOf(c.getEnumConstants());
            case 4 -> lengthOf(c.getRecordComponents());
            case 5 -> lengthOf(c.getPermittedSubclasses());
            case 6 -> c.getDeclaredClasses().length;
            case 7 -> t == 9 || t == 10 ? ClassProbe.REFUSED : c.getNestMembers().length;
            default -> ClassProbe.REFUSED;
        };
    }

    private static int lengthOf(Object[] row) {
        return row == null ? ClassProbe.NULL : row.length;
    }

    int related(int t, int what) {
        if (!Numbers.isType(t)) {
            return ClassProbe.REFUSED;
        }
        Class<?> c = classes[t];
        return switch (what) {
            case 0 -> numberOf(c.getSuperclass());
            case 1 -> numberOf(c.getComponentType());
            case 2 -> numberOf(c.getEnclosingClass());
            case 3 -> numberOf(c.getDeclaringClass());
            case 4 -> numberOf(c.getNestHost());
            case 5 -> c == void.class ? ClassProbe.NULL : numberOf(c.arrayType());
            default -> ClassProbe.REFUSED;
        };
    }

    private int numberOf(Class<?> c) {
        if (c == null) {
            return ClassProbe.NULL;
        }
        for (int t = 0; t < classes.length; t++) {
            if (classes[t] == c) {
                return t;
            }
        }
        return ClassProbe.OTHER;
    }

    int interfaceOf(int t, int k) {
        if (!Numbers.isType(t)) {
            return ClassProbe.REFUSED;
        }
        Class<?>[] all = classes[t].getInterfaces();
        return k >= 0 && k < all.length ? numberOf(all[k]) : ClassProbe.NULL;
    }

    boolean goesInto(int u, int t) {
        return Numbers.isType(u) && Numbers.isType(t) && classes[t].isAssignableFrom(classes[u]);
    }

    int asSubclass(int u, int t) {
        if (!Numbers.isType(u) || !Numbers.isType(t)) {
            return ClassProbe.REFUSED;
        }
        try {
            return numberOf(classes[u].asSubclass(classes[t]));
        } catch (ClassCastException e) {
            return ClassProbe.CAST;
        }
    }

    boolean nestmates(int u, int t) {
        return Numbers.isType(u) && Numbers.isType(t) && classes[u].isNestmateOf(classes[t]);
    }

    int type(int c) {
        if (c < 33 || c > 126) {
            return ClassProbe.REFUSED;
        }
        if (text.length() == 40) {
            return ClassProbe.FULL;
        }
        return text.append((char) c).length();
    }

    int types(long eight) {
        for (byte b : ByteBuffer.allocate(8).putLong(0, eight).array()) {
            int answer = b == 0 ? ClassProbe.DONE : type(b);
            if (answer < 0) {
                return answer;
            }
        }
        return text.length();
    }

    int find() {
        String asked = text.toString();
        text.setLength(0);
        if (!mayBeAsked(asked)) {
            return ClassProbe.REFUSED;
        }
        try {
            return numberOf(Class.forName(asked.replace("ClassProbe", "RealBench")));
        } catch (ClassNotFoundException e) {
            return ClassProbe.NOT_FOUND;
        }
    }

    private static boolean mayBeAsked(String asked) {
        String rest = asked.replaceFirst("^\\[+", "");
        boolean array = rest.length() < asked.length();
        if (array && !rest.matches("L.+;")) {
            return rest.length() < 2;
        }
        String element = array ? rest.substring(1, rest.length() - 1) : rest;
        return MAY_BE_ASKED.contains(element) || element.startsWith("ClassProbe$");
    }

    int put(int slot, int t) {
        if (!isSlot(slot) || (t != -1 && !Numbers.isType(t))) {
            return ClassProbe.REFUSED;
        }
        Object thing = t < 40 ? bench.thing(t) : Array.newInstance(classes[t].getComponentType(), slot);
        if (t != -1 && thing == null) {
            return ClassProbe.NULL;
        }
        slots[slot] = thing;
        return ClassProbe.DONE;
    }

    int typeOf(int slot) {
        if (!isSlot(slot)) {
            return ClassProbe.REFUSED;
        }
        return slots[slot] == null ? ClassProbe.NULL : numberOf(slots[slot].getClass());
    }

    boolean isOf(int slot, int t) {
        return isSlot(slot) && Numbers.isType(t) && classes[t].isInstance(slots[slot]);
    }

    int cast(int slot, int t) {
        if (!isSlot(slot) || !Numbers.isType(t)) {
            return ClassProbe.REFUSED;
        }
        try {
            classes[t].cast(slots[slot]);
            return ClassProbe.DONE;
        } catch (ClassCastException e) {
            return ClassProbe.CAST;
        }
    }

    int light(int slot) {
        if (!isSlot(slot)) {
            return ClassProbe.REFUSED;
        }
        if (slots[slot] instanceof RealBench.Color color) {
            return color.light();
        }
        if (slots[slot] instanceof RealBench.Circle circle) {
            return circle.part();
        }
        return slots[slot] == null ? ClassProbe.NULL : ClassProbe.OTHER;
    }

    /** Of the things that there are, equals takes only Circles for the same that are two. */
    boolean alike(int a, int b) {
        return isSlot(a) && isSlot(b) && Objects.equals(slots[a], slots[b]);
    }

    private static boolean isSlot(int slot) {
        return slot >= 0 && slot < 8;
    }
}
