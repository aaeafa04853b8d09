import java.util.Random;

/** Long runs of calls, in range and out of it, against the model: each with the same seeds at each start. */
public final class ModelTest {
    private static final int RUNS = 1500;
    private static final int CALLS = 512;
    private static final long INDEX = Long.MIN_VALUE;
    private static final long ARGUMENT = Long.MIN_VALUE + 1;
    private static final long STATE = Long.MIN_VALUE + 2;
    private static final long OTHER = Long.MIN_VALUE + 3;

    private final Random random;
    private final SignRail x = new SignRail();
    private final Model model = new Model();
    private final int glyphs;
    private final int places;
    private final int longest;
    private final int oddness;
    private int[] in = new int[6];
    private boolean black;
    private String text;
    private int[] lastWalk = new int[6];
    private String lastGoal;

    private ModelTest(long seed) {
        random = new Random(seed);
        // Few glyphs and places make signs and names meet goals; some runs take all of them.
        glyphs = 2 + random.nextInt(7);
        places = 2 + random.nextInt(7);
        longest = 1 + random.nextInt(5);
        oddness = random.nextInt(4) == 0 ? 8 : 200;
    }

    public static void main(String[] args) {
        for (int run = 0; run < RUNS; run++) {
            ModelTest test = new ModelTest(run);
            for (int call = 0; call < CALLS; call++) {
                test.callOnce(run + "." + call);
            }
        }
        Due.end();
    }

    private int pick(int below) {
        return random.nextInt(oddness) != 0 ? random.nextInt(below)
                : new int[] {-1, -2, below, 8, Integer.MIN_VALUE, Integer.MAX_VALUE}[random.nextInt(6)];
    }

    private static boolean isIn(int value, int low, int high) {
        return value >= low && value <= high;
    }

    private void pickText() {
        int many = random.nextInt(oddness) != 0 ? 1 + random.nextInt(longest) : random.nextInt(8) - 1;
        int number = 0;
        for (int i = 0; i < Math.min(many, 5); i++) {
            number = number * 8 + random.nextInt(glyphs);
        }
        if (random.nextInt(oddness) == 0) {
            number = random.nextBoolean() ? -1 - number : number + (1 << 3 * Math.max(many, 0));
        }
        in[2] = number;
        in[3] = many;
        boolean good = isIn(many, 1, 5) && isIn(number, 0, (1 << 3 * many) - 1);
        text = good ? Model.digits(number, many) : null;
    }

    private void callOnce(String at) {
        pickText();
        int kind = random.nextInt(20);
        long due = due(kind);
        long got = got(kind);
        StringBuilder call = new StringBuilder(at + ": call of kind " + kind);
        for (int value : in) {
            call.append(' ').append(value);
        }
        Due.is(call.toString(), got, due);
    }

    private long due(int kind) {
        if (kind < 4) {
            return dueOfStroke();
        }
        if (kind < 7) {
            return dueOfGlyphs(kind);
        }
        if (kind < 10) {
            return dueOfStation(kind);
        }
        return kind < 17 ? dueOfSigns(kind) : dueOfWalkers(kind);
    }

    private long dueOfStroke() {
        in = new int[] {pick(8), pick(5), pick(5), pick(5), pick(5), 0};
        // Half of the strokes are bent to lines.
        if (random.nextBoolean()) {
            in[random.nextBoolean() ? 3 : 4] = in[random.nextBoolean() ? 1 : 2];
        }
        black = random.nextInt(3) != 0;
        if (!isIn(in[0], 0, 7)) {
            return INDEX;
        }
        for (int i = 1; i <= 4; i++) {
            if (!isIn(in[i], 0, 4)) {
                return ARGUMENT;
            }
        }
        if (!Model.isLine(in[1], in[2], in[3], in[4])) {
            return ARGUMENT;
        }
        return model.stroke(in[0], in[1], in[2], in[3], in[4], black);
    }

    private long dueOfGlyphs(int kind) {
        in[0] = pick(8);
        in[1] = pick(8);
        in[4] = random.nextInt(oddness) == 0 ? pick(5) : random.nextInt(5) - 1;
        if (!isIn(in[0], 0, 7) || kind != 5 && !isIn(in[1], 0, 7)) {
            return INDEX;
        }
        if (kind == 4) {
            return model.difference(in[0], in[1]);
        }
        if (kind == 5) {
            return model.width(in[0]);
        }
        return isIn(in[4], -1, 3) ? model.space(in[0], in[1], in[4]) : ARGUMENT;
    }

    private long dueOfStation(int kind) {
        in[0] = pick(places);
        in[1] = pick(4);
        in[4] = random.nextInt(6) == 0 ? -1 : pick(places);
        if (kind == 9) {
            if (!isIn(in[0], 0, 7)) {
                return INDEX;
            }
            if (text == null) {
                return ARGUMENT;
            }
            model.name(in[0], text);
            return 0;
        }
        boolean good = isIn(in[0], 0, 7) && isIn(in[1], 0, 3) && isIn(in[4], -1, 7);
        return good ? model.lead(in[0], in[1], in[4]) : INDEX;
    }

    private long dueOfSigns(int kind) {
        in[0] = pick(places);
        in[1] = pick(4);
        in[4] = random.nextBoolean() ? random.nextInt(3) : pick(10);
        if (kind == 10) {
            return text == null ? ARGUMENT : model.textWidth(text);
        }
        if (kind == 11) {
            return model.hasOldTooWide() ? STATE : model.remake();
        }
        if (kind == 12) {
            return model.cost();
        }
        if (!isIn(in[0], 0, 7) || !isIn(in[1], 0, 3)) {
            return INDEX;
        }
        if (kind == 13 || kind == 14) {
            return dueOfCut();
        }
        if (kind == 15) {
            // Signs are seldom taken away, so that most runs have many.
            in[5] = random.nextInt(4);
            return in[5] == 0 ? (model.remove(in[0], in[1]) ? 1 : 0) : (model.isOld(in[0], in[1]) ? 1 : 0);
        }
        return model.read(in[0], in[1]);
    }

    private long dueOfCut() {
        if (text == null || !isIn(in[4], 0, 9)) {
            return ARGUMENT;
        }
        return model.isTooWide(text) ? STATE : model.cut(in[0], in[1], text, in[4]);
    }

    /** Half of the walks are those that were asked last, so that a kept one would be seen if it is out of date. */
    private void pickWalk() {
        if (random.nextBoolean()) {
            in = lastWalk.clone();
            text = lastGoal;
        } else {
            in[0] = pick(places);
        }
        in[4] = pick(31);
        lastWalk = in.clone();
        lastGoal = text;
    }

    private long dueOfWalkers(int kind) {
        pickWalk();
        if (!isIn(in[0], 0, 7)) {
            return INDEX;
        }
        if (text == null || kind == 19 && !isIn(in[4], 0, 30)) {
            return ARGUMENT;
        }
        return kind == 19 ? model.placeBehind(in[0], text, in[4]) : model.walk(in[0], text);
    }

    private long got(int kind) {
        try {
            return answer(kind);
        } catch (RuntimeException e) {
            Class<?> thrown = e.getClass();
            return thrown == IndexOutOfBoundsException.class ? INDEX
                    : thrown == IllegalArgumentException.class ? ARGUMENT
                    : thrown == IllegalStateException.class ? STATE : OTHER;
        }
    }

    private long answer(int kind) {
        switch (kind) {
            case 0: case 1: case 2: case 3:
                return x.stroke(in[0], in[1], in[2], in[3], in[4], black);
            case 4:
                return x.difference(in[0], in[1]);
            case 5:
                return x.width(in[0]);
            case 6:
                return x.space(in[0], in[1], in[4]);
            case 7: case 8:
                return x.lead(in[0], in[1], in[4]);
            case 9:
                x.name(in[0], in[2], in[3]);
                return 0;
            case 10:
                return x.textWidth(in[2], in[3]);
            case 11:
                return x.remake();
            case 12:
                return x.cost();
            case 13: case 14:
                return x.cut(in[0], in[1], in[2], in[3], in[4]);
            case 15:
                return (in[5] == 0 ? x.remove(in[0], in[1]) : x.isOld(in[0], in[1])) ? 1 : 0;
            case 16:
                return x.read(in[0], in[1]);
            case 17:
                return x.walk(in[0], in[2], in[3]);
            case 18:
                return x.walkBySteps(in[0], in[2], in[3]);
            default:
                return x.placeBehind(in[0], in[2], in[3], in[4]);
        }
    }
}
