/** The numbers that several tests go through. */
final class Numbers {
    /** No types: round the edges of the three ranges, the arrays of void, and far out. */
    static final int[] NO_TYPES = {
        -1, -2, -40, 25, 26, 30, 39, 48, 65, 70, 79, 88, 105, 110, 119, 120, 128, 129, 144, 160, 200, 1000,
        Integer.MIN_VALUE, Integer.MAX_VALUE
    };
    static final int[] NO_SLOTS = {-1, -2, 8, 9, 100, Integer.MIN_VALUE, Integer.MAX_VALUE};

    private Numbers() {
    }

    /** All 73 types, as the document counts them. */
    static int[] allTypes() {
        int[] all = new int[73];
        int count = 0;
        for (int t = 0; t <= 104; t++) {
            boolean plain = t <= 24;
            boolean array = t >= 40 && t <= 64 && t != 48;
            boolean arrayOfArrays = t >= 80 && t != 88;
            if (plain || array || arrayOfArrays) {
                all[count++] = t;
            }
        }
        return all;
    }

    static boolean isAmong(int n, int... some) {
        for (int one : some) {
            if (one == n) {
                return true;
            }
        }
        return false;
    }
}
