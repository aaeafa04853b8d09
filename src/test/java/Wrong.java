/** Arguments that are out of range, shared by the tests of all promises. */
final class Wrong {
    static final int[] GLYPHS = {-1, 8, 64, Integer.MIN_VALUE, Integer.MAX_VALUE};
    static final int[] PLACES = {-1, 8, 32, Integer.MIN_VALUE, Integer.MAX_VALUE};
    static final int[] EXITS = {-1, 4, 32, Integer.MIN_VALUE, Integer.MAX_VALUE};
    static final int[] COORDINATES = {-1, 5, 25, Integer.MIN_VALUE, Integer.MAX_VALUE};
    static final int[] SPACES = {-2, 4, Integer.MIN_VALUE, Integer.MAX_VALUE};
    static final int[] DISTANCES = {-1, 10, Integer.MIN_VALUE, Integer.MAX_VALUE};
    static final int[] STEPS = {-1, 31, Integer.MIN_VALUE, Integer.MAX_VALUE};

    /** Pairs of a text and how many glyphs it has; with 11 glyphs a shift by 33 bits would come round to 2. */
    static final int[][] TEXTS = {
        {0, 0}, {0, 6}, {0, -1}, {0, 11}, {1, Integer.MIN_VALUE}, {1, Integer.MAX_VALUE},
        {-1, 1}, {-1, 5}, {Integer.MIN_VALUE, 3}, {Integer.MAX_VALUE, 5},
        {8, 1}, {64, 2}, {512, 3}, {4096, 4}, {32768, 5},
    };

    private Wrong() {
    }
}
