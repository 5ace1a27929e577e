import java.lang.reflect.Constructor;
import java.lang.reflect.Field;
import java.lang.reflect.Method;
import java.lang.reflect.Modifier;
import java.util.Arrays;
import java.util.TreeSet;

/** The public face: the constants' values, the constructor and the methods, and no other visible member. */
public final class FaceTest {
    private static final String[] METHODS = {
        "int letter(int, int, int)", "int size(int, int)", "boolean flag(int, int)", "int number(int, int)",
        "int related(int, int)", "int interfaceOf(int, int)", "boolean goesInto(int, int)",
        "int asSubclass(int, int)", "boolean nestmates(int, int)", "int type(int)", "int types(long)", "int find()",
        "int put(int, int)", "int typeOf(int)", "boolean isOf(int, int)", "int cast(int, int)", "int light(int)",
        "boolean alike(int, int)"
    };
    private static final String[] CONSTANTS = {
        "DONE = 0", "REFUSED = -1", "NULL = -2", "OTHER = -3", "NOT_FOUND = -4", "CAST = -5", "FULL = -6"
    };

    public static void main(String[] args) throws ReflectiveOperationException {
        Due due = new Due();
        due.is("methods", visibleMethods().toString(), new TreeSet<>(Arrays.asList(METHODS)).toString());
        due.is("constants", visibleFields().toString(), new TreeSet<>(Arrays.asList(CONSTANTS)).toString());
        due.is("public and final", ClassProbe.class.getModifiers(), Modifier.PUBLIC + Modifier.FINAL);
        Constructor<?>[] constructors = ClassProbe.class.getDeclaredConstructors();
        due.is("constructors", constructors.length, 1);
        due.is("its parameters", constructors[0].getParameterCount(), 0);
        due.is("its modifiers", constructors[0].getModifiers(), Modifier.PUBLIC);
        due.end();
    }

    private static TreeSet<String> visibleMethods() {
        TreeSet<String> all = new TreeSet<>();
        for (Method m : ClassProbe.class.getDeclaredMethods()) {
            if (!Modifier.isPrivate(m.getModifiers())) {
                String parameters = Arrays.toString(m.getParameterTypes()).replace("[", "(").replace("]", ")");
                String access = m.getModifiers() == Modifier.PUBLIC ? "" : "not just public: ";
                all.add(access + m.getReturnType() + " " + m.getName() + parameters);
            }
        }
        return all;
    }

    private static TreeSet<String> visibleFields() throws ReflectiveOperationException {
        TreeSet<String> all = new TreeSet<>();
        for (Field f : ClassProbe.class.getDeclaredFields()) {
            boolean constant = f.getModifiers() == Modifier.PUBLIC + Modifier.STATIC + Modifier.FINAL;
            if (constant && f.getType() == int.class) {
                all.add(f.getName() + " = " + f.getInt(null));
            } else if (!Modifier.isPrivate(f.getModifiers())) {
                all.add("no constant: " + f.getName());
            }
        }
        return all;
    }
}
