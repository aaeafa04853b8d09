/** Each sentence on glyphs, spaces and texts that names a boundary case: promises 1 to 5 and 8. */
public final class EdgeGlyphTest {
    private static final int[] ENDS = {0, 7};

    public static void main(String[] args) {
        newGlyphsAreEmpty();
        newSpacesAreOne();
        strokeOfTheFirstAndLastGlyph();
        strokeOfNoGlyph();
        strokeFromAndToEachEdge();
        strokeOutOfFromX();
        strokeOutOfFromY();
        strokeOutOfToX();
        strokeOutOfToY();
        strokeAlongNoLine();
        strokeOfOneCell();
        strokeIncludesBothEnds();
        strokeAcrossTheWholeGrid();
        strokeBackwards();
        strokeSetsNoCellAside();
        strokeThatChangesNothing();
        strokeOnAFullShape();
        strokeOfNoGlyphDecidesFirst();
        refusedStrokeChangesNothing();
        differenceOfNone();
        differenceOfAll();
        differenceOfTheSameGlyph();
        differenceOfNoGlyph();
        widthOfAnEmptyShape();
        widthOfOneColumn();
        widthOfAllColumns();
        widthWithColumnsBetween();
        widthOfNoGlyph();
        spaceLeastAndMost();
        spaceOutOfRange();
        spaceOfNoGlyph();
        spaceOfAGlyphBehindItself();
        spaceTheOtherWayRound();
        spaceOfNoGlyphDecidesFirst();
        spaceForTextsFromNowOn();
        refusedSpaceChangesNothing();
        Due.end();
    }

    private static void fill(SignRail x, int glyph, boolean isBlack) {
        for (int y = 0; y < 5; y++) {
            x.stroke(glyph, 0, y, 4, y, isBlack);
        }
    }

    // ---- promise 1

    private static void newGlyphsAreEmpty() {
        Due.sentence("1: Empty glyphs; at first none is black");
        SignRail x = new SignRail();
        for (int glyph = 0; glyph < 8; glyph++) {
            for (int cell = 0; cell < 25; cell++) {
                int changed = x.stroke(glyph, cell % 5, cell / 5, cell % 5, cell / 5, false);
                Due.is("cell " + cell + " of " + glyph, changed, 0);
            }
        }
    }

    private static void newSpacesAreOne() {
        Due.sentence("1: spaces of 1; it is 1 at first");
        SignRail x = new SignRail();
        for (int pair = 0; pair < 64; pair++) {
            Due.is("pair " + pair, x.space(pair / 8, pair % 8, -1), 1);
        }
    }

    // ---- promise 2

    private static void strokeOfTheFirstAndLastGlyph() {
        Due.sentence("2: glyph: 0 to 7");
        SignRail x = new SignRail();
        for (int glyph : ENDS) {
            Due.is("glyph " + glyph, x.stroke(glyph, 0, 0, 4, 0, true), 5);
            Due.is("its width", x.width(glyph), 5);
        }
        Due.is("no other one", x.width(1) + x.width(6), 4);
    }

    private static void strokeOfNoGlyph() {
        Due.sentence("2: IndexOutOfBoundsException if there is no such glyph");
        SignRail x = new SignRail();
        for (int bad : Wrong.GLYPHS) {
            Due.throwsIndex("glyph " + bad, () -> x.stroke(bad, 0, 0, 4, 4, true));
        }
    }

    private static void strokeFromAndToEachEdge() {
        Due.sentence("2: fromX, fromY, toX, toY: 0 to 4");
        SignRail x = new SignRail();
        Due.is("0, 0 alone", x.stroke(0, 0, 0, 0, 0, true), 1);
        Due.is("4, 0 alone", x.stroke(0, 4, 0, 4, 0, true), 1);
        Due.is("0, 4 alone", x.stroke(0, 0, 4, 0, 4, true), 1);
        Due.is("4, 4 alone", x.stroke(0, 4, 4, 4, 4, true), 1);
        Due.is("the four of them", x.difference(0, 1), 4);
    }

    private static void strokeOutOfFromX() {
        Due.sentence("2: IllegalArgumentException if fromX is out of range");
        SignRail x = new SignRail();
        for (int bad : Wrong.COORDINATES) {
            Due.throwsArgument("row from " + bad, () -> x.stroke(0, bad, 2, 2, 2, true));
        }
        Due.throwsArgument("diagonal from -1, 0", () -> x.stroke(0, -1, 0, 3, 4, true));
        Due.throwsArgument("diagonal from 5, 0", () -> x.stroke(0, 5, 0, 1, 4, true));
    }

    private static void strokeOutOfFromY() {
        Due.sentence("2: IllegalArgumentException if fromY is out of range");
        SignRail x = new SignRail();
        for (int bad : Wrong.COORDINATES) {
            Due.throwsArgument("column from " + bad, () -> x.stroke(0, 2, bad, 2, 2, true));
        }
        Due.throwsArgument("diagonal from 0, -1", () -> x.stroke(0, 0, -1, 4, 3, true));
        Due.throwsArgument("diagonal from 0, 5", () -> x.stroke(0, 0, 5, 4, 1, true));
    }

    private static void strokeOutOfToX() {
        Due.sentence("2: IllegalArgumentException if toX is out of range");
        SignRail x = new SignRail();
        for (int bad : Wrong.COORDINATES) {
            Due.throwsArgument("row to " + bad, () -> x.stroke(0, 2, 2, bad, 2, true));
        }
        Due.throwsArgument("diagonal to -1, 4", () -> x.stroke(0, 3, 0, -1, 4, true));
        Due.throwsArgument("diagonal to 5, 4", () -> x.stroke(0, 1, 0, 5, 4, true));
    }

    private static void strokeOutOfToY() {
        Due.sentence("2: IllegalArgumentException if toY is out of range");
        SignRail x = new SignRail();
        for (int bad : Wrong.COORDINATES) {
            Due.throwsArgument("column to " + bad, () -> x.stroke(0, 2, 2, 2, bad, true));
        }
        Due.throwsArgument("diagonal to 4, -1", () -> x.stroke(0, 0, 3, 4, -1, true));
        Due.throwsArgument("diagonal to 4, 5", () -> x.stroke(0, 0, 1, 4, 5, true));
    }

    private static void strokeAlongNoLine() {
        Due.sentence("2: IllegalArgumentException if the line is not along a row, a column or a diagonal");
        SignRail x = new SignRail();
        int[][] all = {{1, 2}, {1, 3}, {1, 4}, {2, 1}, {2, 3}, {2, 4}, {3, 1}, {3, 2}, {3, 4}, {4, 1}, {4, 2}, {4, 3}};
        for (int[] far : all) {
            String call = far[0] + " across and " + far[1];
            Due.throwsArgument(call + " down", () -> x.stroke(0, 0, 0, far[0], far[1], true));
            Due.throwsArgument(call + " up", () -> x.stroke(0, 0, 4, far[0], 4 - far[1], true));
            Due.throwsArgument(call + " down, back", () -> x.stroke(0, 4, 0, 4 - far[0], far[1], true));
            Due.throwsArgument(call + " up, back", () -> x.stroke(0, 4, 4, 4 - far[0], 4 - far[1], false));
        }
    }

    private static void strokeOfOneCell() {
        Due.sentence("2: a stroke from a cell to itself is that cell");
        SignRail x = new SignRail();
        for (int cell = 0; cell < 25; cell++) {
            Due.is("cell " + cell, x.stroke(7, cell % 5, cell / 5, cell % 5, cell / 5, true), 1);
            Due.is("black so far", x.difference(7, 0), cell + 1);
        }
    }

    private static void strokeIncludesBothEnds() {
        Due.sentence("2: both included");
        int[][] all = {{1, 1, 2, 1}, {1, 1, 1, 2}, {1, 1, 2, 2}, {1, 2, 2, 1}, {1, 3, 4, 3}, {3, 1, 0, 4}};
        for (int[] ends : all) {
            SignRail x = new SignRail();
            String call = ends[0] + ", " + ends[1] + " to " + ends[2] + ", " + ends[3];
            x.stroke(3, ends[0], ends[1], ends[2], ends[3], true);
            Due.is("first of " + call, x.stroke(3, ends[0], ends[1], ends[0], ends[1], false), 1);
            Due.is("last of " + call, x.stroke(3, ends[2], ends[3], ends[2], ends[3], false), 1);
        }
    }

    private static void strokeAcrossTheWholeGrid() {
        Due.sentence("2: a straight line, along a row, a column, or a diagonal, from edge to edge");
        for (int at = 0; at < 5; at++) {
            SignRail x = new SignRail();
            Due.is("row " + at, x.stroke(0, 0, at, 4, at, true), 5);
            Due.is("column " + at, x.stroke(1, at, 0, at, 4, true), 5);
            Due.is("they share a cell", x.difference(0, 1), 8);
            Due.is("diagonal down from row " + at, x.stroke(2, 0, at, 4 - at, 4, true), 5 - at);
            Due.is("diagonal up from row " + at, x.stroke(3, 0, at, at, 0, true), at + 1);
        }
    }

    private static void strokeBackwards() {
        Due.sentence("2: from a cell to another one, whichever is the first");
        SignRail x = new SignRail();
        int[][] lines = {{0, 1, 3, 1}, {4, 0, 4, 4}, {0, 0, 4, 4}, {4, 0, 0, 4}, {1, 0, 4, 3}};
        for (int[] line : lines) {
            x.stroke(0, line[0], line[1], line[2], line[3], true);
            x.stroke(1, line[2], line[3], line[0], line[1], true);
            Due.is("line from " + line[0] + ", " + line[1], x.difference(0, 1), 0);
        }
        Due.is("there are cells", x.difference(0, 2) > 0, true);
    }

    private static void strokeSetsNoCellAside() {
        Due.sentence("2: a stroke sets all cells on the line, and no others");
        SignRail x = new SignRail();
        fill(x, 5, true);
        Due.is("taken", x.stroke(5, 1, 1, 3, 3, false), 3);
        Due.is("22 are left", x.difference(5, 0), 22);
        for (int at = 1; at <= 3; at++) {
            Due.is("cell " + at + " was taken", x.stroke(5, at, at, at, at, true), 1);
        }
    }

    private static void strokeThatChangesNothing() {
        Due.sentence("2: returns how many cells changed: none");
        SignRail x = new SignRail();
        Due.is("white on white", x.stroke(4, 0, 0, 4, 4, false), 0);
        x.stroke(4, 0, 0, 4, 4, true);
        Due.is("black on black", x.stroke(4, 0, 0, 4, 4, true), 0);
        Due.is("five stay", x.difference(4, 0), 5);
    }

    private static void strokeOnAFullShape() {
        Due.sentence("2: returns how many cells changed: on a full shape");
        SignRail x = new SignRail();
        fill(x, 4, true);
        Due.is("25 are black", x.difference(4, 0), 25);
        Due.is("black on black", x.stroke(4, 0, 4, 4, 0, true), 0);
        Due.is("white on black", x.stroke(4, 0, 4, 4, 0, false), 5);
        Due.is("half of the line", x.stroke(4, 0, 0, 4, 4, false), 4);
    }

    private static void strokeOfNoGlyphDecidesFirst() {
        Due.sentence("2: the first line of the throws clause that applies decides");
        SignRail x = new SignRail();
        for (int bad : Wrong.GLYPHS) {
            Due.throwsIndex("out of range, too", () -> x.stroke(bad, 5, 0, 0, 0, true));
            Due.throwsIndex("no line, too", () -> x.stroke(bad, 0, 0, 1, 2, true));
        }
    }

    private static void refusedStrokeChangesNothing() {
        Due.sentence("2: a call that throws changes nothing");
        Picture.unchangedBy("stroke", x -> {
            Due.throwsIndex("glyph 8", () -> x.stroke(8, 0, 0, 4, 0, true));
            Due.throwsArgument("to 5", () -> x.stroke(0, 0, 0, 5, 0, true));
            Due.throwsArgument("from -1", () -> x.stroke(1, -1, 0, 4, 0, false));
            Due.throwsArgument("no line", () -> x.stroke(2, 0, 0, 4, 3, false));
        });
    }

    // ---- promise 3

    private static void differenceOfNone() {
        Due.sentence("3: returns 0 to 25: 0");
        SignRail x = new SignRail();
        Due.is("both empty", x.difference(0, 7), 0);
        fill(x, 0, true);
        fill(x, 7, true);
        Due.is("both full", x.difference(0, 7), 0);
    }

    private static void differenceOfAll() {
        Due.sentence("3: returns 0 to 25: 25");
        SignRail x = new SignRail();
        fill(x, 7, true);
        Due.is("empty and full", x.difference(0, 7), 25);
        Due.is("full and empty", x.difference(7, 0), 25);
        x.stroke(7, 0, 0, 4, 0, false);
        x.stroke(0, 0, 0, 4, 0, true);
        Due.is("each the other's rest", x.difference(0, 7), 25);
    }

    private static void differenceOfTheSameGlyph() {
        Due.sentence("3: black in one of them alone: of a glyph and itself");
        SignRail x = new SignRail();
        fill(x, 0, true);
        x.stroke(7, 0, 0, 4, 4, true);
        for (int glyph = 0; glyph < 8; glyph++) {
            Due.is("glyph " + glyph, x.difference(glyph, glyph), 0);
        }
    }

    private static void differenceOfNoGlyph() {
        Due.sentence("3: IndexOutOfBoundsException if there is no such glyph, of either");
        SignRail x = new SignRail();
        for (int bad : Wrong.GLYPHS) {
            Due.throwsIndex("one " + bad, () -> x.difference(bad, 7));
            Due.throwsIndex("other " + bad, () -> x.difference(0, bad));
            Due.throwsIndex("both " + bad, () -> x.difference(bad, bad));
        }
    }

    // ---- promise 4

    private static void widthOfAnEmptyShape() {
        Due.sentence("4: 2 if there is none");
        SignRail x = new SignRail();
        for (int glyph : ENDS) {
            Due.is("new " + glyph, x.width(glyph), 2);
            fill(x, glyph, true);
            fill(x, glyph, false);
            Due.is("empty again " + glyph, x.width(glyph), 2);
        }
    }

    private static void widthOfOneColumn() {
        Due.sentence("4: returns 1 to 5: 1");
        for (int cell = 0; cell < 25; cell++) {
            SignRail x = new SignRail();
            x.stroke(0, cell % 5, cell / 5, cell % 5, cell / 5, true);
            Due.is("cell " + cell + " alone", x.width(0), 1);
            x.stroke(0, cell % 5, 0, cell % 5, 4, true);
            Due.is("its column", x.width(0), 1);
        }
    }

    private static void widthOfAllColumns() {
        Due.sentence("4: returns 1 to 5: 5");
        SignRail x = new SignRail();
        fill(x, 7, true);
        Due.is("full", x.width(7), 5);
        for (int y = 0; y < 5; y++) {
            SignRail other = new SignRail();
            other.stroke(0, 0, y, 4, y, true);
            Due.is("row " + y, other.width(0), 5);
        }
    }

    private static void widthWithColumnsBetween() {
        Due.sentence("4: columns from the first to the last one with a black cell, both included");
        SignRail x = new SignRail();
        x.stroke(1, 0, 4, 0, 4, true);
        x.stroke(1, 4, 0, 4, 0, true);
        Due.is("the outermost alone", x.width(1), 5);
        x.stroke(2, 1, 3, 1, 3, true);
        x.stroke(2, 3, 1, 3, 1, true);
        Due.is("1 and 3", x.width(2), 3);
        x.stroke(3, 3, 0, 3, 4, true);
        x.stroke(3, 4, 0, 4, 4, true);
        Due.is("3 and 4", x.width(3), 2);
    }

    private static void widthOfNoGlyph() {
        Due.sentence("4: IndexOutOfBoundsException if there is no such glyph");
        SignRail x = new SignRail();
        for (int bad : Wrong.GLYPHS) {
            Due.throwsIndex("glyph " + bad, () -> x.width(bad));
        }
    }

    // ---- promise 5

    private static void spaceLeastAndMost() {
        Due.sentence("5: space: -1 to 3");
        SignRail x = new SignRail();
        Due.is("at first", x.space(0, 7, -1), 1);
        Due.is("text of the least", x.textWidth(07, 2), 3);
        Due.is("the least is answered", x.space(0, 7, 3), -1);
        Due.is("text of the most", x.textWidth(07, 2), 7);
        Due.is("the most is answered", x.space(0, 7, 0), 3);
        Due.is("text of 0", x.textWidth(07, 2), 4);
        Due.is("0 is answered", x.space(0, 7, 0), 0);
    }

    private static void spaceOutOfRange() {
        Due.sentence("5: IllegalArgumentException if space is out of range");
        SignRail x = new SignRail();
        for (int bad : Wrong.SPACES) {
            Due.throwsArgument("space " + bad, () -> x.space(7, 0, bad));
        }
    }

    private static void spaceOfNoGlyph() {
        Due.sentence("5: IndexOutOfBoundsException if there is no such glyph, of either");
        SignRail x = new SignRail();
        for (int bad : Wrong.GLYPHS) {
            for (int good = 0; good < 8; good++) {
                int other = good;
                Due.throwsIndex("first " + bad, () -> x.space(bad, other, 1));
                Due.throwsIndex("second " + bad, () -> x.space(other, bad, 1));
            }
            Due.throwsIndex("both " + bad, () -> x.space(bad, bad, 1));
        }
    }

    private static void spaceOfAGlyphBehindItself() {
        Due.sentence("5: each two glyphs have a space: a glyph behind itself");
        SignRail x = new SignRail();
        for (int glyph : ENDS) {
            Due.is("at first", x.space(glyph, glyph, 3), 1);
            Due.is("then", x.space(glyph, glyph, 3), 3);
        }
        Due.is("0 0", x.textWidth(0, 2), 7);
        Due.is("7 7", x.textWidth(077, 2), 7);
    }

    private static void spaceTheOtherWayRound() {
        Due.sentence("5: one behind the other: the one behind it is the second");
        SignRail x = new SignRail();
        x.space(0, 7, 3);
        Due.is("7 before 0", x.space(7, 0, -1), 1);
        Due.is("0 before 7", x.space(0, 7, 3), 3);
        Due.is("text 0 7", x.textWidth(07, 2), 7);
        Due.is("text 7 0", x.textWidth(070, 2), 3);
    }

    private static void spaceOfNoGlyphDecidesFirst() {
        Due.sentence("5: the first line of the throws clause that applies decides");
        SignRail x = new SignRail();
        Due.throwsIndex("first and space", () -> x.space(8, 0, 4));
        Due.throwsIndex("second and space", () -> x.space(0, -1, -2));
    }

    private static void spaceForTextsFromNowOn() {
        Due.sentence("5: for texts that are cut from now on");
        SignRail x = new SignRail();
        Due.is("five and four spaces", x.cut(0, 0, 0, 5, 0), 7);
        x.space(0, 0, -1);
        Due.is("cut before: paid as it was", x.cost(), 7);
        Due.is("cut before: not old", x.isOld(0, 0), false);
        Due.is("cut before: not remade", x.remake(), 0);
        Due.is("cut from now on", x.cut(0, 1, 0, 5, 0), 4);
    }

    private static void refusedSpaceChangesNothing() {
        Due.sentence("5: a call that throws changes nothing");
        Picture.unchangedBy("space", x -> {
            Due.throwsIndex("first 8", () -> x.space(8, 0, 2));
            Due.throwsIndex("first -1", () -> x.space(-1, 7, 2));
            Due.throwsIndex("second 8", () -> x.space(0, 8, 2));
            Due.throwsIndex("second -1", () -> x.space(7, -1, 2));
            Due.throwsArgument("space 4", () -> x.space(7, 7, 4));
            Due.throwsArgument("space -2", () -> x.space(0, 7, -2));
        });
    }
}
