import java.util.Arrays;

/**
 * A station and its signs, as ../shared/DOC.md promises.
 *
 * A text is held packed: its number in the low 15 bits and how many glyphs it
 * has above them, so that texts of the same number and of different lengths
 * differ, and NO_TEXT is none of them. The exits of all places stand in one
 * row, 0 to 31; such a number is called a way.
 */
public final class SignRail {
    public static final int NONE = -1;

    private static final int GLYPHS = 8;
    private static final int GLYPH_BITS = 3;
    private static final int SIDE = 5;
    private static final int EMPTY_WIDTH = 2;
    private static final int LEAST_SPACE = -1;
    private static final int FIRST_SPACE = 1;
    private static final int MOST_SPACE = 3;
    private static final int LONGEST = 5;
    private static final int NUMBER_BITS = GLYPH_BITS * LONGEST;
    private static final int NO_TEXT = 0;
    private static final int PLACES = 8;
    private static final int EXITS = 4;
    private static final int WAYS = PLACES * EXITS;
    private static final int MOST_DISTANCE = 9;
    private static final int MOST_STEPS = 30;
    private static final int NOT_KEPT = -2;

    /** The cells of each glyph, one bit each, row by row. */
    private final int[] shapes = new int[GLYPHS];
    private final int[] spaces = new int[GLYPHS * GLYPHS];
    private final int[] leads = new int[WAYS];
    private final int[] names = new int[PLACES];
    private final int[] signTexts = new int[WAYS];
    private final int[] signDistances = new int[WAYS];
    private final int[] signShapes = new int[WAYS * LONGEST];
    private long costSoFar = 0;
    /** The goal of the kept walks alone: a row for each goal would not fit into the room. */
    private int keptGoal = NO_TEXT;
    private final int[] keptSteps = new int[PLACES];

    public SignRail() {
        Arrays.fill(spaces, FIRST_SPACE);
        Arrays.fill(leads, NONE);
    }

    // ---- glyphs

    public int stroke(int glyph, int fromX, int fromY, int toX, int toY, boolean isBlack)
            throws IndexOutOfBoundsException, IllegalArgumentException {
        requireGlyph(glyph);
        requireLine(fromX, fromY, toX, toY);
        int cells = lineCells(fromX, fromY, toX, toY);
        int before = shapes[glyph];
        int after = isBlack ? before | cells : before & ~cells;
        shapes[glyph] = after;
        forgetWalks();
        return differing(before, after);
    }

    public int difference(int one, int other) throws IndexOutOfBoundsException {
        requireGlyph(one);
        requireGlyph(other);
        return differing(shapes[one], shapes[other]);
    }

    public int width(int glyph) throws IndexOutOfBoundsException {
        requireGlyph(glyph);
        return shapeWidth(shapes[glyph]);
    }

    public int space(int first, int second, int space)
            throws IndexOutOfBoundsException, IllegalArgumentException {
        requireGlyph(first);
        requireGlyph(second);
        if (space < LEAST_SPACE || space > MOST_SPACE) {
            throw new IllegalArgumentException("no such space");
        }
        int pair = pairOf(first, second);
        int before = spaces[pair];
        spaces[pair] = space;
        return before;
    }

    // ---- the station

    public int lead(int place, int exit, int to) throws IndexOutOfBoundsException {
        requireExit(place, exit);
        if (to != NONE) {
            requirePlace(to);
        }
        int way = wayOf(place, exit);
        int before = leads[way];
        leads[way] = to;
        forgetWalks();
        return before;
    }

    public void name(int place, int text, int many)
            throws IndexOutOfBoundsException, IllegalArgumentException {
        requirePlace(place);
        requireText(text, many);
        names[place] = pack(text, many);
        forgetWalks();
    }

    // ---- signs

    public int textWidth(int text, int many) throws IllegalArgumentException {
        requireText(text, many);
        return packedWidth(pack(text, many));
    }

    public int cut(int place, int exit, int text, int many, int distance)
            throws IndexOutOfBoundsException, IllegalArgumentException, IllegalStateException {
        requireExit(place, exit);
        requireText(text, many);
        if (distance < 0 || distance > MOST_DISTANCE) {
            throw new IllegalArgumentException("no such distance");
        }
        int packed = pack(text, many);
        int plate = plateFor(packed);
        if (plate == NONE) {
            throw new IllegalStateException("too wide for any plate");
        }
        int way = wayOf(place, exit);
        signTexts[way] = packed;
        signDistances[way] = distance;
        engrave(way, plate);
        forgetWalks();
        return plate;
    }

    public boolean remove(int place, int exit) throws IndexOutOfBoundsException {
        requireExit(place, exit);
        int way = wayOf(place, exit);
        boolean had = signTexts[way] != NO_TEXT;
        signTexts[way] = NO_TEXT;
        forgetWalks();
        return had;
    }

    public boolean isOld(int place, int exit) throws IndexOutOfBoundsException {
        requireExit(place, exit);
        return isOutdated(wayOf(place, exit));
    }

    public int remake() throws IllegalStateException {
        requirePlatesForOutdated();
        int many = 0;
        for (int way = 0; way < WAYS; way++) {
            if (isOutdated(way)) {
                engrave(way, plateFor(signTexts[way]));
                many++;
            }
        }
        forgetWalks();
        return many;
    }

    public int read(int place, int exit) throws IndexOutOfBoundsException {
        requireExit(place, exit);
        int way = wayOf(place, exit);
        return signTexts[way] == NO_TEXT ? NONE : numberOf(readText(way));
    }

    public long cost() {
        return costSoFar;
    }

    // ---- walkers

    public int walk(int from, int text, int many) throws IndexOutOfBoundsException, IllegalArgumentException {
        requirePlace(from);
        requireText(text, many);
        int goal = pack(text, many);
        if (goal != keptGoal) {
            keptGoal = goal;
            Arrays.fill(keptSteps, NOT_KEPT);
        }
        if (keptSteps[from] == NOT_KEPT) {
            keptSteps[from] = stepsToArrive(from, goal);
        }
        return keptSteps[from];
    }

    public int walkBySteps(int from, int text, int many)
            throws IndexOutOfBoundsException, IllegalArgumentException {
        requirePlace(from);
        requireText(text, many);
        return stepsToArrive(from, pack(text, many));
    }

    public int placeBehind(int from, int text, int many, int steps)
            throws IndexOutOfBoundsException, IllegalArgumentException {
        requirePlace(from);
        requireText(text, many);
        if (steps < 0 || steps > MOST_STEPS) {
            throw new IllegalArgumentException("no such number of steps");
        }
        return placeReached(from, pack(text, many), steps);
    }

    // ---- what is asked of arguments

    private static void requireGlyph(int glyph) {
        if (glyph < 0 || glyph >= GLYPHS) {
            throw new IndexOutOfBoundsException("no such glyph");
        }
    }

    private static void requirePlace(int place) {
        if (place < 0 || place >= PLACES) {
            throw new IndexOutOfBoundsException("no such place");
        }
    }

    private static void requireExit(int place, int exit) {
        requirePlace(place);
        if (exit < 0 || exit >= EXITS) {
            throw new IndexOutOfBoundsException("no such exit");
        }
    }

    private static void requireText(int text, int many) {
        if (many < 1 || many > LONGEST) {
            throw new IllegalArgumentException("no such number of glyphs");
        }
        if (text < 0 || text >= 1 << (GLYPH_BITS * many)) {
            throw new IllegalArgumentException("no such text");
        }
    }

    private static void requireLine(int fromX, int fromY, int toX, int toY) {
        if (!isCell(fromX, fromY) || !isCell(toX, toY)) {
            throw new IllegalArgumentException("no such cell");
        }
        int across = Math.abs(toX - fromX);
        int down = Math.abs(toY - fromY);
        if (across != 0 && down != 0 && across != down) {
            throw new IllegalArgumentException("no such line");
        }
    }

    private static boolean isCell(int x, int y) {
        return x >= 0 && x < SIDE && y >= 0 && y < SIDE;
    }

    // ---- shapes

    private static int lineCells(int fromX, int fromY, int toX, int toY) {
        int length = Math.max(Math.abs(toX - fromX), Math.abs(toY - fromY));
        int stepX = direction(fromX, toX);
        int stepY = direction(fromY, toY);
        int cells = 0;
        for (int step = 0; step <= length; step++) {
            cells |= 1 << ((fromY + step * stepY) * SIDE + fromX + step * stepX);
        }
        return cells;
    }

    private static int direction(int from, int to) {
        return to > from ? 1 : to < from ? -1 : 0;
    }

    private static int differing(int shape, int otherShape) {
        return Integer.bitCount(shape ^ otherShape);
    }

    private static int shapeWidth(int shape) {
        int first = NONE;
        int last = NONE;
        for (int x = 0; x < SIDE; x++) {
            if (hasColumn(shape, x)) {
                first = first == NONE ? x : first;
                last = x;
            }
        }
        return first == NONE ? EMPTY_WIDTH : last - first + 1;
    }

    private static boolean hasColumn(int shape, int x) {
        return (shape & lineCells(x, 0, x, SIDE - 1)) != 0;
    }

    private static int pairOf(int first, int second) {
        return first * GLYPHS + second;
    }

    // ---- texts

    private static int pack(int text, int many) {
        return (many << NUMBER_BITS) | text;
    }

    private static int manyOf(int packed) {
        return packed >> NUMBER_BITS;
    }

    private static int numberOf(int packed) {
        return packed & ((1 << NUMBER_BITS) - 1);
    }

    /** Counted from the end, as the last glyph is the lowest digit: the last one is at 0. */
    private static int glyphAt(int packed, int at) {
        return (packed >> (GLYPH_BITS * at)) & (GLYPHS - 1);
    }

    private int packedWidth(int packed) {
        int width = 0;
        for (int at = 0; at < manyOf(packed); at++) {
            int glyph = glyphAt(packed, at);
            width += shapeWidth(shapes[glyph]);
            if (at > 0) {
                width += spaces[pairOf(glyph, glyphAt(packed, at - 1))];
            }
        }
        return width;
    }

    private int plateFor(int packed) {
        int width = packedWidth(packed);
        if (width <= 10) {
            return 4;
        }
        if (width <= 20) {
            return 7;
        }
        return width <= 30 ? 10 : NONE;
    }

    // ---- signs of ways

    private static int wayOf(int place, int exit) {
        return place * EXITS + exit;
    }

    private void engrave(int way, int plate) {
        int packed = signTexts[way];
        for (int at = 0; at < manyOf(packed); at++) {
            signShapes[way * LONGEST + at] = shapes[glyphAt(packed, at)];
        }
        costSoFar += plate;
    }

    private boolean isOutdated(int way) {
        int packed = signTexts[way];
        for (int at = 0; at < manyOf(packed); at++) {
            if (signShapes[way * LONGEST + at] != shapes[glyphAt(packed, at)]) {
                return true;
            }
        }
        return false;
    }

    /** Looks at all of them before the first one is cut, as a call that throws changes nothing. */
    private void requirePlatesForOutdated() {
        for (int way = 0; way < WAYS; way++) {
            if (isOutdated(way) && plateFor(signTexts[way]) == NONE) {
                throw new IllegalStateException("too wide for any plate");
            }
        }
    }

    /** NO_TEXT if there is no sign, so that it is never read as a goal. */
    private int readText(int way) {
        int many = manyOf(signTexts[way]);
        int number = 0;
        for (int at = 0; at < many; at++) {
            int glyph = readGlyph(signShapes[way * LONGEST + at], signDistances[way]);
            number |= glyph << (GLYPH_BITS * at);
        }
        return pack(number, many);
    }

    private int readGlyph(int shape, int distance) {
        int nearest = nearestGlyph(shape, NONE);
        int second = nearestGlyph(shape, nearest);
        int gap = differing(shape, shapes[second]) - differing(shape, shapes[nearest]);
        return gap >= distance ? nearest : second;
    }

    private int nearestGlyph(int shape, int except) {
        int nearest = except == 0 ? 1 : 0;
        for (int glyph = nearest + 1; glyph < GLYPHS; glyph++) {
            if (glyph != except && differing(shape, shapes[glyph]) < differing(shape, shapes[nearest])) {
                nearest = glyph;
            }
        }
        return nearest;
    }

    // ---- walking

    private void forgetWalks() {
        keptGoal = NO_TEXT;
    }

    private int stepsToArrive(int from, int goal) {
        int place = from;
        int taken = 0;
        for (int steps = 0; steps <= MOST_STEPS; steps++) {
            if (names[place] == goal) {
                return steps;
            }
            int way = nextWay(place, goal, taken);
            if (way == NONE) {
                return NONE;
            }
            taken |= 1 << way;
            place = leads[way];
        }
        return NONE;
    }

    private int placeReached(int from, int goal, int steps) {
        int place = from;
        int taken = 0;
        for (int step = 0; step < steps && names[place] != goal; step++) {
            int way = nextWay(place, goal, taken);
            if (way == NONE) {
                return place;
            }
            taken |= 1 << way;
            place = leads[way];
        }
        return place;
    }

    /** Taken has a bit for each way; the way that is found leads to a place. */
    private int nextWay(int place, int goal, int taken) {
        int untaken = NONE;
        for (int exit = 0; exit < EXITS; exit++) {
            int way = wayOf(place, exit);
            if (leads[way] != NONE) {
                if (readText(way) == goal) {
                    return way;
                }
                if (untaken == NONE && (taken & (1 << way)) == 0) {
                    untaken = way;
                }
            }
        }
        return untaken;
    }
}
