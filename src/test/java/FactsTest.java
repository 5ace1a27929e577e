/** Promises 4 (flag) and 5 (number), for every type, and for wrong numbers. */
public final class FactsTest {
    private static final int[][] FLAGS = {
        {},
        {0, 1, 2, 3, 4, 5, 6, 7, 8},
        {10, 12, 13, 20},
        {20},
        {16},
        {14},
        {13, 16},
        {17, 24},
        {23},
        {12, 13, 14, 15, 16, 18, 19, 20, 21, 22},
        {23, 24},
    };
    private static final int[] MODIFIERS = {
        1041, 1041, 1041, 1041, 1041, 1041, 1041, 1041, 1041, 1, 1537, 17, 1544, 1544, 24, 24, 8 + 16384,
        16 + 16384, 2, 4, 1544 + 8192, 1032, 8, 0, 0
    };

    private static final Due DUE = new Due();

    public static void main(String[] args) {
        for (int t : Numbers.allTypes()) {
            askFlags(t);
            askNumbers(t);
        }
        askWrongNumbers();
        DUE.end();
    }

    private static void askFlags(int t) {
        ClassProbe x = new ClassProbe();
        DUE.is("flag(" + t + ", 0)", x.flag(t, 0), t >= 40);
        for (int what = 1; what <= 10; what++) {
            DUE.is("flag(" + t + ", " + what + ")", x.flag(t, what), Numbers.isAmong(t, FLAGS[what]));
        }
    }

    private static void askNumbers(int t) {
        ClassProbe x = new ClassProbe();
        for (int what = 0; what <= 7; what++) {
            DUE.is("number(" + t + ", " + what + ")", x.number(t, what), dueNumber(t, what));
        }
    }

    private static int dueNumber(int t, int what) {
        switch (what) {
            case 0:
                return t < 40 ? MODIFIERS[t] : 1040 + (MODIFIERS[t % 40] & 7);
            case 1:
                return t >= 40 || t == 15 ? 2 : Numbers.isAmong(t, 14, 20, 21, 23, 24) ? 1 : 0;
            case 2:
                return t == 21 ? 1 : 0;
            case 3:
                return t == 16 ? 2 : ClassProbe.NULL;
            case 4:
                return t == 14 ? 1 : ClassProbe.NULL;
            case 5:
                return t == 13 ? 2 : t == 16 ? 1 : ClassProbe.NULL;
            case 6:
                return t == 11 ? 9 : t == 18 ? 1 : 0;
            default:
                return t == 9 || t == 10 ? ClassProbe.REFUSED : t >= 11 && t <= 24 ? 14 : 1;
        }
    }

    private static void askWrongNumbers() {
        for (int t : Numbers.NO_TYPES) {
            ClassProbe x = new ClassProbe();
            for (int what = -1; what <= 11; what++) {
                DUE.is("flag(" + t + ", " + what + ")", x.flag(t, what), false);
                DUE.is("number(" + t + ", " + what + ")", x.number(t, what), ClassProbe.REFUSED);
            }
        }
        int[] noFlags = {-1, 11, 12, 100, Integer.MIN_VALUE, Integer.MAX_VALUE};
        int[] noNumbers = {-1, 8, 9, 100, Integer.MIN_VALUE, Integer.MAX_VALUE};
        for (int k = 0; k < noFlags.length; k++) {
            ClassProbe x = new ClassProbe();
            for (int t : Numbers.allTypes()) {
                DUE.is("flag(" + t + ", " + noFlags[k] + ")", x.flag(t, noFlags[k]), false);
                DUE.is("number(" + t + ", " + noNumbers[k] + ")", x.number(t, noNumbers[k]), ClassProbe.REFUSED);
            }
        }
    }
}
