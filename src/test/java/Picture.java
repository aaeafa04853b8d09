import java.util.function.Consumer;

/** What a call that throws leaves: an object that refused calls is held against one that never had them. */
final class Picture {
    private static final int ANSWERS = 403;

    private final SignRail x;
    private final long[] answers = new long[ANSWERS];
    private int many = 0;

    private Picture(SignRail x) {
        this.x = x;
    }

    /**
     * Glyphs, spaces, exits, names and signs of all kinds: place 0 leads to 1 by a sign that is old, 1 to 2, 2 to
     * the named 3, and the last exit of the last place has a sign that is not old.
     */
    static SignRail station() {
        SignRail x = new SignRail();
        x.stroke(1, 0, 0, 4, 0, true);
        x.stroke(2, 0, 0, 4, 4, true);
        x.stroke(7, 1, 0, 1, 4, true);
        x.space(7, 7, 3);
        x.space(0, 7, -1);
        x.lead(0, 0, 2);
        x.lead(0, 3, 1);
        x.lead(1, 0, 2);
        x.lead(2, 1, 3);
        x.lead(7, 3, 0);
        x.name(3, 012, 2);
        x.name(7, 7, 1);
        x.cut(0, 3, 012, 2, 3);
        x.cut(7, 3, 077, 3, 4);
        x.stroke(2, 0, 4, 0, 4, true);
        return x;
    }

    /** The calls are refused by one of two objects alike; then both must answer alike, whatever they are asked. */
    static void unchangedBy(String calls, Consumer<SignRail> refused) {
        SignRail asked = station();
        // A kept walk must stay right, too.
        asked.walk(0, 012, 2);
        refused.accept(asked);
        long[] got = new Picture(asked).take();
        long[] due = new Picture(station()).take();
        for (int i = 0; i < ANSWERS; i++) {
            Due.is("answer " + i + " behind " + calls, got[i], due[i]);
        }
    }

    private long[] take() {
        signs();
        walks();
        for (int way = 0; way < 32; way++) {
            add(x.lead(way / 4, way % 4, SignRail.NONE));
        }
        for (int pair = 0; pair < 64; pair++) {
            add(x.space(pair / 8, pair % 8, 0));
        }
        for (int glyph = 0; glyph < 8; glyph++) {
            cells(glyph);
        }
        add(x.remake());
        add(x.cost());
        return answers;
    }

    private void signs() {
        add(x.cost());
        for (int way = 0; way < 32; way++) {
            add(x.read(way / 4, way % 4));
            add(x.isOld(way / 4, way % 4) ? 1 : 0);
        }
    }

    private void walks() {
        for (int place = 0; place < 8; place++) {
            add(x.walk(place, 012, 2));
            add(x.walk(place, 7, 1));
            add(x.walk(place, 0, 1));
        }
    }

    /** Each cell is set, so each that was not black tells of it; the signs tell their shapes and distances. */
    private void cells(int glyph) {
        for (int cell = 0; cell < 25; cell++) {
            add(x.stroke(glyph, cell % 5, cell / 5, cell % 5, cell / 5, true));
        }
        add(x.read(0, 3));
        add(x.read(7, 3));
    }

    private void add(long answer) {
        answers[many] = answer;
        many++;
    }
}
