/** Arguments that are out of range, those among them that a wrap-around or a shift would bring back into it. */
final class Far {
    /** Below 0, but for NONE; times 2, 3, 4, 5, 6, 8, 24 or 40, or as a char, a byte or a shift, some come to 0 or 1. */
    static final int[] BELOW = {
        -2, -3, -8, -32, -64, -256, -65536, -(1 << 29), -(1 << 30), -1431655765, -858993459, -715827882,
        Integer.MIN_VALUE, Integer.MIN_VALUE + 1,
    };
    /** Above every range of the document. */
    static final int[] ABOVE = {
        1025, 4096, 65536, 65537, 1 << 24, 1 << 28, 1 << 29, (1 << 29) + 1, 1 << 30, 858993460, 1431655766,
        Integer.MAX_VALUE - 1, Integer.MAX_VALUE,
    };

    private Far() {
    }

    /** Returns what is none of the numbers from 0 up to a bound: -1, the bound, and all that are far. */
    static int[] from(int bound) {
        int[] with = new int[around(bound).length + 1];
        System.arraycopy(around(bound), 0, with, 1, with.length - 1);
        with[0] = -1;
        return with;
    }

    /** Returns the same without -1, for where NONE may stand. */
    static int[] around(int bound) {
        int[] around = new int[1 + BELOW.length + ABOVE.length];
        around[0] = bound;
        System.arraycopy(BELOW, 0, around, 1, BELOW.length);
        System.arraycopy(ABOVE, 0, around, 1 + BELOW.length, ABOVE.length);
        return around;
    }
}
