/** "An object is used for at most 512 calls after it has been made": up to the last of them all answers are due. */
public final class LastCallTest {
    private static final int CALLS = 512;

    private static final Due DUE = new Due();

    public static void main(String[] args) {
        lettersToTheLast();
        typingToTheLast();
        fullToTheLast();
        puttingToTheLast();
        refusedToTheLast();
        DUE.end();
    }

    private static void lettersToTheLast() {
        DUE.sentence("An object is used for at most 512 calls (letter)");
        String text = "class [[LClassProbe$Inner$Deep;";
        ClassProbe x = new ClassProbe();
        for (int call = 0; call < CALLS; call++) {
            int i = call % (text.length() + 1);
            DUE.is("letter as call " + (call + 1), x.letter(99, 5, i), i < text.length() ? text.charAt(i) : 0);
        }
    }

    private static void typingToTheLast() {
        DUE.sentence("An object is used for at most 512 calls (type and find)");
        String text = "[[I";
        ClassProbe x = new ClassProbe();
        for (int call = 0; call < CALLS; call++) {
            int i = call % (text.length() + 1);
            boolean type = i < text.length();
            DUE.is("call " + (call + 1), type ? x.type(text.charAt(i)) : x.find(), type ? i + 1 : 84);
        }
    }

    private static void fullToTheLast() {
        DUE.sentence("An object is used for at most 512 calls (types until it is FULL)");
        ClassProbe x = new ClassProbe();
        for (int call = 0; call < CALLS; call++) {
            int want = call < 5 ? 8 * (call + 1) : ClassProbe.FULL;
            DUE.is("types as call " + (call + 1), x.types(0x4949494949494949L), want);
        }
    }

    private static void puttingToTheLast() {
        DUE.sentence("An object is used for at most 512 calls (put and typeOf)");
        ClassProbe x = new ClassProbe();
        for (int call = 0; call < CALLS; call++) {
            int slot = call / 2 % 8;
            int t = 80 + call / 2 % 8;
            boolean put = call % 2 == 0;
            DUE.is("call " + (call + 1), put ? x.put(slot, t) : x.typeOf(slot), put ? ClassProbe.DONE : t);
        }
    }

    private static void refusedToTheLast() {
        DUE.sentence("An object is used for at most 512 calls (refused ones, and then one that is not)");
        ClassProbe x = new ClassProbe();
        for (int call = 0; call < CALLS - 1; call++) {
            DUE.is("put(8, 9) as call " + (call + 1), x.put(8, 9), ClassProbe.REFUSED);
        }
        DUE.is("type(I) as call 512", x.type('I'), 1);
    }
}
