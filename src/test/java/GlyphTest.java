/** Promises 1 to 5 and 8: new objects, strokes, differences, widths, spaces, widths of texts. */
public final class GlyphTest {
    public static void main(String[] args) {
        newObject();
        newObjectsAreApart();
        strokeAlongEachDirection();
        strokeCountsChanges();
        strokeTakesAway();
        strokeRefuses();
        difference();
        differenceRefuses();
        width();
        widthRefuses();
        space();
        spaceRefuses();
        textWidth();
        textWidthRefuses();
        Due.end();
    }

    private static void newObject() {
        SignRail x = new SignRail();
        for (int one = 0; one < 8; one++) {
            Due.is("width of an empty glyph", x.width(one), 2);
            for (int other = 0; other < 8; other++) {
                Due.is("difference of empty glyphs", x.difference(one, other), 0);
                Due.is("first space", x.space(one, other, 1), 1);
            }
        }
        for (int place = 0; place < 8; place++) {
            for (int exit = 0; exit < 4; exit++) {
                Due.is("new isOld", x.isOld(place, exit), false);
                Due.is("new read", x.read(place, exit), SignRail.NONE);
                Due.is("new remove", x.remove(place, exit), false);
                Due.is("new lead", x.lead(place, exit, SignRail.NONE), SignRail.NONE);
            }
            Due.is("new walk", x.walk(place, 0, 1), SignRail.NONE);
            Due.is("new walkBySteps", x.walkBySteps(place, 0, 5), SignRail.NONE);
            Due.is("new placeBehind", x.placeBehind(place, 0, 1, 30), place);
        }
        Due.is("new remake", x.remake(), 0);
        Due.is("new cost", x.cost(), 0);
        // The black cells themselves: each must change when it is set.
        for (int glyph = 0; glyph < 8; glyph++) {
            for (int y = 0; y < 5; y++) {
                Due.is("row of an empty glyph", x.stroke(glyph, 0, y, 4, y, true), 5);
            }
        }
    }

    private static void newObjectsAreApart() {
        SignRail x = new SignRail();
        SignRail other = new SignRail();
        x.stroke(0, 0, 0, 4, 0, true);
        x.space(0, 0, 3);
        x.lead(0, 0, 1);
        x.name(1, 0, 1);
        x.cut(0, 0, 0, 1, 0);
        Due.is("other's width", other.width(0), 2);
        Due.is("other's text", other.textWidth(0, 2), 5);
        Due.is("other's walk", other.walk(0, 0, 1), SignRail.NONE);
        Due.is("other's name", other.walk(1, 0, 1), SignRail.NONE);
        Due.is("other's sign", other.read(0, 0), SignRail.NONE);
        Due.is("other's cost", other.cost(), 0);
    }

    private static boolean isLine(int across, int down) {
        return across == 0 || down == 0 || across == down || across == -down;
    }

    /** Each pair of cells: a line sets just the cells between them, any other pair is refused. */
    private static void strokeAlongEachDirection() {
        for (int from = 0; from < 25; from++) {
            SignRail x = new SignRail();
            for (int to = 0; to < 25; to++) {
                int fromX = from % 5;
                int fromY = from / 5;
                int toX = to % 5;
                int toY = to / 5;
                String call = "stroke(3, " + fromX + ", " + fromY + ", " + toX + ", " + toY + ", ";
                if (!isLine(toX - fromX, toY - fromY)) {
                    Due.throwsArgument(call + "true)", () -> x.stroke(3, fromX, fromY, toX, toY, true));
                    continue;
                }
                int stepX = Integer.signum(toX - fromX);
                int stepY = Integer.signum(toY - fromY);
                int length = Math.max(Math.abs(toX - fromX), Math.abs(toY - fromY)) + 1;
                Due.is(call + "true)", x.stroke(3, fromX, fromY, toX, toY, true), length);
                for (int i = 0; i < length; i++) {
                    int cellX = fromX + i * stepX;
                    int cellY = fromY + i * stepY;
                    Due.is(call + "true) cell " + i, x.stroke(3, cellX, cellY, cellX, cellY, false), 1);
                }
                Due.is(call + "true) sets no others", x.difference(3, 4), 0);
            }
        }
    }

    private static void strokeCountsChanges() {
        SignRail x = new SignRail();
        Due.is("row", x.stroke(0, 0, 2, 4, 2, true), 5);
        Due.is("same row backwards", x.stroke(0, 4, 2, 0, 2, true), 0);
        Due.is("column across it", x.stroke(0, 2, 0, 2, 4, true), 4);
        Due.is("diagonal across both", x.stroke(0, 0, 4, 4, 0, true), 4);
        Due.is("other diagonal", x.stroke(0, 4, 4, 0, 0, true), 4);
        Due.is("cell that is black", x.stroke(0, 2, 2, 2, 2, true), 0);
        Due.is("seventeen are black", x.difference(0, 1), 17);
        Due.is("other glyph untouched", x.stroke(1, 0, 2, 4, 2, true), 5);
    }

    private static void strokeTakesAway() {
        SignRail x = new SignRail();
        Due.is("nothing to take", x.stroke(7, 0, 0, 4, 4, false), 0);
        x.stroke(7, 0, 0, 4, 0, true);
        x.stroke(7, 0, 1, 4, 1, true);
        Due.is("column taken", x.stroke(7, 3, 0, 3, 4, false), 2);
        Due.is("again", x.stroke(7, 3, 4, 3, 0, false), 0);
        Due.is("diagonal taken", x.stroke(7, 1, 1, 0, 0, false), 2);
        Due.is("six are left", x.difference(7, 0), 6);
    }

    private static void strokeRefuses() {
        SignRail x = new SignRail();
        x.stroke(2, 1, 1, 3, 3, true);
        for (int bad : Wrong.GLYPHS) {
            Due.throwsIndex("stroke of " + bad, () -> x.stroke(bad, 0, 0, 0, 0, true));
            Due.throwsIndex("stroke of " + bad + " on no cell", () -> x.stroke(bad, 9, 0, 0, 0, true));
            Due.throwsIndex("stroke of " + bad + " on no line", () -> x.stroke(bad, 0, 0, 1, 2, true));
        }
        for (int bad : Wrong.COORDINATES) {
            Due.throwsArgument("fromX " + bad, () -> x.stroke(2, bad, 0, 0, 0, true));
            Due.throwsArgument("fromY " + bad, () -> x.stroke(2, 0, bad, 0, 0, true));
            Due.throwsArgument("toX " + bad, () -> x.stroke(2, 0, 0, bad, 0, true));
            Due.throwsArgument("toY " + bad, () -> x.stroke(2, 0, 0, 0, bad, true));
            Due.throwsArgument("both x " + bad, () -> x.stroke(2, bad, 0, bad, 0, true));
            Due.throwsArgument("both y " + bad, () -> x.stroke(2, 0, bad, 0, bad, false));
            Due.throwsArgument("to " + bad, () -> x.stroke(2, 0, 0, bad, bad, false));
        }
        Due.throwsArgument("knight's move", () -> x.stroke(2, 0, 0, 1, 2, true));
        Due.throwsArgument("steep", () -> x.stroke(2, 4, 4, 3, 0, false));
        Due.is("unchanged", x.difference(2, 0), 3);
        Due.is("unchanged cells", x.stroke(2, 1, 1, 3, 3, true), 0);
    }

    private static void difference() {
        SignRail x = new SignRail();
        for (int y = 0; y < 5; y++) {
            x.stroke(1, 0, y, 4, y, true);
        }
        x.stroke(2, 0, 0, 4, 4, true);
        x.stroke(3, 4, 0, 0, 4, true);
        Due.is("full and empty", x.difference(1, 0), 25);
        Due.is("empty and full", x.difference(0, 1), 25);
        Due.is("full and diagonal", x.difference(1, 2), 20);
        Due.is("diagonals, both sides alone", x.difference(2, 3), 8);
        Due.is("a glyph and itself", x.difference(2, 2), 0);
        Due.is("edges 0 and 7", x.difference(0, 7), 0);
        x.stroke(3, 0, 4, 4, 0, false);
        x.stroke(3, 0, 0, 4, 4, true);
        Due.is("same shape by other strokes", x.difference(2, 3), 0);
    }

    private static void differenceRefuses() {
        SignRail x = new SignRail();
        for (int bad : Wrong.GLYPHS) {
            Due.throwsIndex("difference one " + bad, () -> x.difference(bad, 0));
            Due.throwsIndex("difference other " + bad, () -> x.difference(7, bad));
        }
    }

    private static void width() {
        for (int first = 0; first < 5; first++) {
            for (int last = first; last < 5; last++) {
                SignRail x = new SignRail();
                x.stroke(5, first, 4, first, 4, true);
                x.stroke(5, last, 0, last, 0, true);
                Due.is("width of " + first + " to " + last, x.width(5), last - first + 1);
            }
        }
        SignRail x = new SignRail();
        x.stroke(0, 0, 2, 4, 2, true);
        Due.is("row", x.width(0), 5);
        x.stroke(0, 0, 2, 1, 2, false);
        Due.is("shorter row", x.width(0), 3);
        x.stroke(0, 3, 2, 3, 2, false);
        Due.is("gap counts", x.width(0), 3);
        x.stroke(0, 2, 2, 4, 2, false);
        Due.is("empty again", x.width(0), 2);
    }

    private static void widthRefuses() {
        SignRail x = new SignRail();
        for (int bad : Wrong.GLYPHS) {
            Due.throwsIndex("width " + bad, () -> x.width(bad));
        }
    }

    private static void space() {
        SignRail x = new SignRail();
        Due.is("first", x.space(0, 7, 3), 1);
        Due.is("second", x.space(0, 7, -1), 3);
        Due.is("third", x.space(0, 7, 0), -1);
        Due.is("fourth", x.space(0, 7, 2), 0);
        Due.is("the other way round is another pair", x.space(7, 0, 3), 1);
        Due.is("a glyph behind itself", x.space(7, 7, -1), 1);
        Due.is("still", x.space(0, 7, 2), 2);
        Due.is("text 0 7", x.textWidth(7, 2), 6);
        Due.is("text 7 0", x.textWidth(070, 2), 7);
        Due.is("text 7 7", x.textWidth(077, 2), 3);
        Due.is("text 0 0", x.textWidth(0, 2), 5);
    }

    private static void spaceRefuses() {
        SignRail x = new SignRail();
        for (int bad : Wrong.GLYPHS) {
            Due.throwsIndex("space first " + bad, () -> x.space(bad, 0, 0));
            Due.throwsIndex("space second " + bad, () -> x.space(0, bad, 0));
            Due.throwsIndex("space first " + bad + " before its space", () -> x.space(bad, 0, 4));
            Due.throwsIndex("space second " + bad + " before its space", () -> x.space(0, bad, -2));
        }
        for (int bad : Wrong.SPACES) {
            Due.throwsArgument("space " + bad, () -> x.space(3, 4, bad));
        }
        Due.is("unchanged", x.space(3, 4, 1), 1);
    }

    private static void textWidth() {
        SignRail x = new SignRail();
        x.stroke(1, 0, 0, 0, 4, true);
        x.stroke(2, 0, 0, 2, 0, true);
        x.stroke(3, 0, 0, 4, 4, true);
        Due.is("one glyph", x.textWidth(3, 1), 5);
        Due.is("0 3 is not 3", x.textWidth(3, 2), 8);
        Due.is("1 2", x.textWidth(012, 2), 5);
        x.space(1, 2, 3);
        x.space(2, 3, -1);
        Due.is("1 2 wider", x.textWidth(012, 2), 7);
        Due.is("2 1 as before", x.textWidth(021, 2), 5);
        Due.is("1 2 3", x.textWidth(0123, 3), 11);
        Due.is("0 0 1 2 3", x.textWidth(0123, 5), 17);
        Due.is("3 2 1 0 0", x.textWidth(032100, 5), 17);
        Due.is("the lowest", x.textWidth(0, 1), 2);
        Due.is("the highest", x.textWidth(32767, 5), 14);
        x.stroke(0, 2, 2, 2, 2, true);
        Due.is("0 0 1 2 3 now", x.textWidth(0123, 5), 15);
        Due.is("no cost", x.cost(), 0);
    }

    private static void textWidthRefuses() {
        SignRail x = new SignRail();
        for (int[] bad : Wrong.TEXTS) {
            Due.throwsArgument("textWidth(" + bad[0] + ", " + bad[1] + ")", () -> x.textWidth(bad[0], bad[1]));
        }
        int limit = 1;
        for (int many = 1; many <= 5; many++) {
            limit *= 8;
            Due.is("the highest of " + many, x.textWidth(limit - 1, many), 3 * many - 1);
        }
    }
}
