/**
 * Arguments that are out of range, shared by the tests of all promises: the next ones below and above, some far
 * away, and some that would come round into the range if they were multiplied, shifted or added first.
 */
final class Wrong {
    static final int[] GLYPHS = {-1, 8, -8, 64, 1 << 29, 1 << 30, Integer.MIN_VALUE, Integer.MAX_VALUE};
    static final int[] PLACES = {-1, 8, -8, 32, 1 << 29, 1 << 30, Integer.MIN_VALUE, Integer.MAX_VALUE};
    static final int[] EXITS = {-1, 4, -4, 32, 1 << 30, Integer.MIN_VALUE, Integer.MAX_VALUE};
    static final int[] COORDINATES = {-1, 5, -5, 25, 32, 1 << 30, Integer.MIN_VALUE, Integer.MAX_VALUE};
    /** How many glyphs a text has; with 11, 12 or 33 a shift by three times as many would come round. */
    static final int[] LENGTHS = {0, 6, -1, 11, 12, 33, Integer.MIN_VALUE, Integer.MIN_VALUE + 1, Integer.MAX_VALUE};
    static final int[] SPACES = {-2, 4, Integer.MIN_VALUE, Integer.MAX_VALUE};
    static final int[] DISTANCES = {-1, 10, Integer.MIN_VALUE, Integer.MAX_VALUE};
    static final int[] STEPS = {-1, 31, Integer.MIN_VALUE, Integer.MAX_VALUE};

    /** Pairs of a text and how many glyphs it has; with 11 or 33 glyphs a shift would come round to 1 or 3 bits. */
    static final int[][] TEXTS = {
        {0, 0}, {0, 6}, {0, -1}, {0, 11}, {7, 33}, {1, Integer.MIN_VALUE}, {1, Integer.MAX_VALUE},
        {-1, 1}, {-1, 5}, {Integer.MIN_VALUE, 3}, {Integer.MAX_VALUE, 5},
        {8, 1}, {64, 2}, {512, 3}, {4096, 4}, {32768, 5},
    };

    private Wrong() {
    }
}
