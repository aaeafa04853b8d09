/** Promises 9 to 14: cutting, removing, old signs, remaking, reading, costs. */
public final class SignTest {
    public static void main(String[] args) {
        cutCostsByWidth();
        cutReplaces();
        cutRefuses();
        remove();
        removeRefuses();
        isOld();
        isOldRefuses();
        remake();
        remakeCountsOldOnesAlone();
        remakeTakesTheSpacesOfNow();
        remakeRefuses();
        readByDistance();
        readTies();
        readShapesAsTheyWere();
        readEachGlyphOfItself();
        readRefuses();
        cost();
        Due.end();
    }

    /** Glyph 7 is 5 wide, glyph 0 is 2 wide, glyph 1 is 1 wide. */
    private static SignRail withWideGlyph() {
        SignRail x = new SignRail();
        x.stroke(7, 0, 0, 4, 0, true);
        x.stroke(1, 2, 0, 2, 4, true);
        return x;
    }

    private static void cutCostsByWidth() {
        SignRail x = withWideGlyph();
        x.space(7, 7, 0);
        Due.is("10 wide", x.textWidth(077, 2), 10);
        Due.is("on 10", x.cut(0, 0, 077, 2, 0), 4);
        x.space(7, 7, 1);
        Due.is("11 wide", x.textWidth(077, 2), 11);
        Due.is("on 20", x.cut(0, 1, 077, 2, 0), 7);
        Due.is("17 wide", x.cut(0, 2, 0777, 3, 0), 7);
        x.space(7, 1, 2);
        Due.is("20 wide", x.textWidth(07771, 4), 20);
        Due.is("on 20 too", x.cut(7, 3, 07771, 4, 9), 7);
        x.space(7, 1, 3);
        Due.is("21 wide", x.textWidth(07771, 4), 21);
        Due.is("on 30", x.cut(7, 2, 07771, 4, 9), 10);
        x.space(7, 7, 2);
        x.space(7, 0, 0);
        x.space(1, 7, -1);
        Due.is("28 wide", x.textWidth(077770, 5), 28);
        x.space(7, 0, 2);
        Due.is("30 wide", x.textWidth(077770, 5), 30);
        Due.is("on 30 too", x.cut(3, 1, 077770, 5, 0), 10);
        x.space(7, 0, 3);
        Due.is("31 wide", x.textWidth(077770, 5), 31);
        Due.throwsState("31 wide", () -> x.cut(3, 1, 077770, 5, 0));
        Due.is("1 wide", x.cut(3, 1, 1, 1, 0), 4);
        Due.is("all", x.cost(), 4 + 7 + 7 + 7 + 10 + 10 + 4);
    }

    private static void cutReplaces() {
        SignRail x = withWideGlyph();
        x.cut(2, 2, 0717, 3, 0);
        Due.is("first text", x.read(2, 2), 0717);
        x.cut(2, 2, 1, 1, 0);
        Due.is("second text", x.read(2, 2), 1);
        x.stroke(7, 0, 0, 0, 0, false);
        Due.is("its shapes alone count", x.isOld(2, 2), false);
        x.stroke(1, 2, 0, 2, 0, false);
        Due.is("its glyph counts", x.isOld(2, 2), true);
        x.cut(2, 2, 1, 1, 0);
        Due.is("cut anew it is not old", x.isOld(2, 2), false);
        Due.is("other exits have none", x.read(2, 1), SignRail.NONE);
        Due.is("other places have none", x.read(1, 2), SignRail.NONE);
    }

    private static void cutRefuses() {
        SignRail x = withWideGlyph();
        for (int one = 0; one < 8; one++) {
            x.space(7, one, 3);
        }
        x.cut(4, 1, 017, 2, 1);
        for (int bad : Wrong.PLACES) {
            Due.throwsIndex("cut place " + bad, () -> x.cut(bad, 0, 0, 1, 0));
            Due.throwsIndex("cut place " + bad + " first", () -> x.cut(bad, 0, -1, 9, 99));
        }
        for (int bad : Wrong.EXITS) {
            Due.throwsIndex("cut exit " + bad, () -> x.cut(0, bad, 0, 1, 0));
            Due.throwsIndex("cut exit " + bad + " before its width", () -> x.cut(0, bad, 077777, 5, 0));
        }
        for (int[] bad : Wrong.TEXTS) {
            Due.throwsArgument("cut " + bad[0] + ", " + bad[1], () -> x.cut(4, 1, bad[0], bad[1], 0));
        }
        for (int bad : Wrong.DISTANCES) {
            Due.throwsArgument("cut distance " + bad, () -> x.cut(4, 1, 0, 1, bad));
            Due.throwsArgument("cut distance " + bad + " before its width", () -> x.cut(4, 1, 077777, 5, bad));
        }
        Due.throwsState("too wide", () -> x.cut(4, 1, 077777, 5, 9));
        Due.throwsState("too wide for a new one", () -> x.cut(4, 2, 077777, 5, 9));
        Due.is("the old sign stays", x.read(4, 1), 017);
        Due.is("no new one", x.remove(4, 2), false);
        Due.is("nor is it paid", x.cost(), 4);
    }

    private static void remove() {
        SignRail x = new SignRail();
        x.cut(7, 3, 0, 1, 0);
        Due.is("there is none", x.remove(7, 2), false);
        Due.is("there is one", x.remove(7, 3), true);
        Due.is("it is away", x.remove(7, 3), false);
        Due.is("not read", x.read(7, 3), SignRail.NONE);
        x.stroke(0, 0, 0, 0, 0, true);
        Due.is("not old", x.isOld(7, 3), false);
        Due.is("not remade", x.remake(), 0);
        Due.is("but paid", x.cost(), 4);
    }

    private static void removeRefuses() {
        SignRail x = new SignRail();
        for (int bad : Wrong.PLACES) {
            Due.throwsIndex("remove place " + bad, () -> x.remove(bad, 0));
        }
        for (int bad : Wrong.EXITS) {
            Due.throwsIndex("remove exit " + bad, () -> x.remove(0, bad));
        }
    }

    private static void isOld() {
        SignRail x = new SignRail();
        x.cut(0, 0, 012345, 5, 3);
        for (int glyph = 0; glyph < 8; glyph++) {
            Due.is("before " + glyph, x.isOld(0, 0), false);
            x.stroke(glyph, 4, 4, 4, 4, true);
            Due.is("retouched " + glyph, x.isOld(0, 0), glyph >= 1 && glyph <= 5);
            x.stroke(glyph, 4, 4, 4, 4, false);
            Due.is("as it was " + glyph, x.isOld(0, 0), false);
        }
        x.stroke(5, 0, 0, 0, 0, false);
        Due.is("a stroke that changes nothing", x.isOld(0, 0), false);
        x.space(1, 2, 3);
        Due.is("a space makes none old", x.isOld(0, 0), false);
        x.stroke(1, 0, 0, 4, 0, true);
        x.stroke(2, 0, 0, 4, 0, true);
        Due.is("all retouched alike", x.isOld(0, 0), true);
    }

    private static void isOldRefuses() {
        SignRail x = new SignRail();
        for (int bad : Wrong.PLACES) {
            Due.throwsIndex("isOld place " + bad, () -> x.isOld(bad, 0));
        }
        for (int bad : Wrong.EXITS) {
            Due.throwsIndex("isOld exit " + bad, () -> x.isOld(0, bad));
        }
    }

    private static void remake() {
        SignRail x = new SignRail();
        x.cut(0, 0, 01, 2, 1);
        x.cut(7, 3, 1, 1, 1);
        Due.is("none is old", x.remake(), 0);
        x.stroke(1, 0, 0, 4, 0, true);
        Due.is("its shape of then", x.read(7, 3), 2);
        Due.is("two are old", x.remake(), 2);
        Due.is("paid anew", x.cost(), 16);
        Due.is("not old", x.isOld(0, 0), false);
        Due.is("nor the last", x.isOld(7, 3), false);
        Due.is("its shape of now", x.read(7, 3), 1);
        Due.is("no more", x.remake(), 0);
        Due.is("not paid again", x.cost(), 16);
        // Its distance is still 1, so the empty shape, which several glyphs have, is read as the second one.
        Due.is("with its distance", x.read(0, 0), 021);
    }

    private static void remakeCountsOldOnesAlone() {
        SignRail x = new SignRail();
        x.cut(1, 0, 3, 1, 0);
        x.cut(1, 1, 4, 1, 0);
        x.cut(1, 2, 034, 2, 0);
        x.cut(1, 3, 3, 1, 0);
        x.remove(1, 3);
        x.stroke(4, 1, 1, 1, 1, true);
        Due.is("two of three", x.remake(), 2);
        Due.is("paid", x.cost(), 4 * 4 + 2 * 4);
    }

    private static void remakeTakesTheSpacesOfNow() {
        SignRail x = new SignRail();
        Due.is("8 wide", x.cut(1, 0, 0123, 3, 0), 4);
        x.space(1, 2, 3);
        x.space(2, 3, 3);
        Due.is("not old by that", x.remake(), 0);
        x.stroke(3, 2, 0, 2, 0, true);
        Due.is("11 wide, old", x.remake(), 1);
        Due.is("on 20", x.cost(), 4 + 7);
        x.stroke(3, 2, 0, 2, 0, false);
        x.space(1, 2, -1);
        x.space(2, 3, -1);
        Due.is("4 wide, old", x.remake(), 1);
        Due.is("on 10", x.cost(), 4 + 7 + 4);
    }

    private static void remakeRefuses() {
        SignRail x = new SignRail();
        x.cut(0, 0, 5, 1, 0);
        x.cut(3, 3, 066666, 5, 0);
        x.space(6, 6, 3);
        x.stroke(5, 0, 0, 4, 0, true);
        Due.is("22 wide", x.textWidth(066666, 5), 22);
        Due.is("the other one alone", x.remake(), 1);
        x.stroke(5, 0, 0, 4, 0, false);
        x.stroke(6, 0, 0, 4, 0, true);
        Due.throwsState("37 wide", () -> x.remake());
        Due.is("the first one stays old", x.isOld(0, 0), true);
        Due.is("so does the wide one", x.isOld(3, 3), true);
        Due.is("nothing is paid", x.cost(), 4 + 7 + 4);
        x.remove(3, 3);
        Due.is("without the wide one", x.remake(), 1);
        Due.is("paid", x.cost(), 4 + 7 + 4 + 4);
        // Too wide by its spaces, but not old: it is not cut.
        x.space(6, 6, 0);
        x.cut(3, 3, 066666, 5, 0);
        x.space(6, 6, 3);
        Due.is("not old", x.remake(), 0);
    }

    private static void readByDistance() {
        SignRail x = new SignRail();
        x.stroke(1, 0, 0, 4, 0, true);
        for (int glyph = 2; glyph < 8; glyph++) {
            x.stroke(glyph, 0, 0, 4, 0, true);
            x.stroke(glyph, 0, 4, 4, 4, true);
            x.stroke(glyph, 0, 2, 3, 2, true);
        }
        Due.is("nearest of the others", x.difference(0, 1), 5);
        for (int distance = 0; distance <= 9; distance++) {
            x.cut(0, 0, 0, 1, distance);
            Due.is("0 from " + distance, x.read(0, 0), distance <= 5 ? 0 : 1);
        }
        x.stroke(0, 0, 1, 3, 1, true);
        for (int distance = 0; distance <= 9; distance++) {
            x.cut(0, 0, 1, 1, distance);
            Due.is("1 from " + distance, x.read(0, 0), distance <= 9 ? 1 : 0);
        }
        x.stroke(0, 3, 1, 3, 1, false);
        x.cut(0, 0, 1, 1, 8);
        Due.is("1 from 8", x.read(0, 0), 1);
        x.cut(0, 0, 1, 1, 9);
        Due.is("1 from 9", x.read(0, 0), 0);
    }

    private static void readTies() {
        SignRail x = new SignRail();
        for (int glyph = 0; glyph < 8; glyph++) {
            x.cut(0, 0, glyph, 1, 0);
            Due.is("all alike, nearest", x.read(0, 0), 0);
            x.cut(0, 0, glyph, 1, 1);
            Due.is("all alike, second", x.read(0, 0), 1);
        }
        x.stroke(0, 2, 2, 2, 2, true);
        x.stroke(5, 2, 2, 2, 2, true);
        x.cut(0, 0, 5, 1, 0);
        Due.is("0 and 5 alike, nearest", x.read(0, 0), 0);
        x.cut(0, 0, 5, 1, 1);
        Due.is("0 and 5 alike, second", x.read(0, 0), 5);
        x.stroke(0, 2, 2, 2, 2, false);
        x.cut(0, 0, 5, 1, 2);
        Due.is("5 alone, second", x.read(0, 0), 0);
        x.cut(0, 0, 7, 1, 1);
        Due.is("7 as the others", x.read(0, 0), 1);
    }

    private static void readShapesAsTheyWere() {
        SignRail x = new SignRail();
        x.stroke(3, 0, 0, 4, 0, true);
        x.cut(5, 0, 3, 1, 0);
        x.stroke(3, 0, 0, 4, 0, false);
        x.stroke(6, 0, 0, 3, 0, true);
        Due.is("glyph 6 is now nearest", x.read(5, 0), 6);
        x.cut(5, 1, 3, 1, 0);
        Due.is("cut later it is not", x.read(5, 1), 0);
        x.stroke(0, 0, 0, 4, 0, true);
        Due.is("glyph 0 is now nearer", x.read(5, 0), 0);
        Due.is("the later one", x.read(5, 1), 1);
        Due.is("none", x.read(5, 2), SignRail.NONE);
    }

    private static void readEachGlyphOfItself() {
        SignRail x = new SignRail();
        for (int glyph = 0; glyph < 5; glyph++) {
            x.stroke(glyph, 0, glyph, 4, glyph, true);
            x.stroke(glyph, 0, 0, 0, 4, true);
        }
        x.stroke(5, 0, 0, 4, 4, true);
        x.stroke(6, 4, 0, 0, 4, true);
        for (int text : new int[] {0, 1, 012345, 054321, 066666, 060000, 6}) {
            x.cut(6, 2, text, 5, 0);
            Due.is("text " + text, x.read(6, 2), text);
        }
        x.cut(6, 2, 6, 2, 0);
        Due.is("0 6", x.read(6, 2), 6);
        x.cut(6, 2, 06512, 4, 8);
        // 1 and 2 are 8 away from any other; 6 and 5 are 5 away from the empty 7.
        Due.is("each glyph by itself", x.read(6, 2), 07712);
        x.cut(6, 2, 06512, 4, 5);
        Due.is("all of them from 5", x.read(6, 2), 06512);
    }

    private static void readRefuses() {
        SignRail x = new SignRail();
        for (int bad : Wrong.PLACES) {
            Due.throwsIndex("read place " + bad, () -> x.read(bad, 0));
        }
        for (int bad : Wrong.EXITS) {
            Due.throwsIndex("read exit " + bad, () -> x.read(0, bad));
        }
    }

    private static void cost() {
        SignRail x = new SignRail();
        Due.is("none", x.cost(), 0);
        x.cut(0, 0, 0, 1, 0);
        x.cut(0, 0, 0, 5, 0);
        Due.is("one that was replaced, too", x.cost(), 11);
        x.remove(0, 0);
        Due.is("one that was taken away, too", x.cost(), 11);
        x.cut(0, 0, 0, 5, 0);
        x.stroke(0, 0, 0, 0, 0, true);
        x.remake();
        Due.is("remade", x.cost(), 11 + 7 + 4);
    }
}
