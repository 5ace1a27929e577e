import java.util.stream.IntStream;

/** The numbers that several tests go through. */
final class Numbers {
    /** No types: round the edges of the three ranges, the arrays of void, and far out. */
    static final int[] NO_TYPES = {
        -1, -2, -40, 25, 26, 30, 39, 48, 65, 70, 79, 88, 105, 110, 119, 120, 128, 129, 144, 160, 200, 1000,
        Integer.MIN_VALUE, Integer.MAX_VALUE
    };
    static final int[] NO_SLOTS = {-1, -2, 8, 9, 100, Integer.MIN_VALUE, Integer.MAX_VALUE};

    private Numbers() {
    }

    /** All 73 types, as the document counts them. */
    static int[] allTypes() {
        return IntStream.rangeClosed(0, 104).filter(Numbers::isType).toArray();
    }

    /** Every number near the types that is none, and those far out that would be one if a digit or bit were lost. */
    static int[] manyNoTypes() {
        IntStream near = IntStream.rangeClosed(-300, 1300);
        IntStream low = IntStream.rangeClosed(Integer.MIN_VALUE, Integer.MIN_VALUE + 110);
        IntStream high = IntStream.rangeClosed(Integer.MAX_VALUE - 110, Integer.MAX_VALUE);
        IntStream bits = IntStream.rangeClosed(11, 30).flatMap(bit -> IntStream.of(-1, 0, 4, 9, 14, 49, 104)
            .flatMap(t -> IntStream.of(t + (1 << bit), t - (1 << bit))));
        return IntStream.concat(IntStream.concat(near, low), IntStream.concat(bits, high))
            .filter(t -> !isType(t)).toArray();
    }

    static boolean isType(int t) {
        return within(t, 0, 24) || within(t, 40, 47) || within(t, 49, 64) || within(t, 80, 87) || within(t, 89, 104);
    }

    static boolean within(int n, int first, int last) {
        return n >= first && n <= last;
    }

    /** Numbers just below and just above that range, and those far out that would be in it if bits were lost. */
    static int[] outside(int first, int last) {
        IntStream below = IntStream.rangeClosed(first - 20, first - 1);
        IntStream above = IntStream.rangeClosed(last + 1, last + 20);
        IntStream far = IntStream.of(8, 16, 24, 30)
            .flatMap(bit -> IntStream.of(first + (1 << bit), last + (1 << bit), first - (1 << bit), last - (1 << bit)));
        IntStream ends = IntStream.of(Integer.MIN_VALUE, Integer.MIN_VALUE + first, Integer.MIN_VALUE + last,
            Integer.MAX_VALUE - 1, Integer.MAX_VALUE);
        return IntStream.concat(IntStream.concat(below, above), IntStream.concat(far, ends))
            .filter(n -> !within(n, first, last)).distinct().toArray();
    }

    static boolean isAmong(int n, int... some) {
        for (int one : some) {
            if (one == n) {
                return true;
            }
        }
        return false;
    }
}
