/** Reads texts of types as a whole. */
final class Texts {
    private Texts() {
    }

    /** The text, asked for letter by letter; null if the type has no such one. */
    static String read(int t, int which) {
        ClassProbe x = new ClassProbe();
        int size = x.size(t, which);
        StringBuilder text = new StringBuilder();
        for (int i = 0; i < size; i++) {
            text.append((char) x.letter(t, which, i));
        }
        return size == ClassProbe.NULL ? null : text.toString();
    }
}
