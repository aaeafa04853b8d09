/** Each sentence on signs that names a boundary case: promises 9 to 14. */
public final class EdgeSignTest {
    private static final int[] LIMITS = {8, 64, 512, 4096, 32768};

    public static void main(String[] args) {
        cutAtTheFirstAndLastExit();
        cutAtNoPlace();
        cutAtNoExit();
        cutOfTheLowestAndHighestText();
        cutOfTooFewOrTooManyGlyphs();
        cutBelowZero();
        cutNotLessThanThePower();
        cutFromTheLeastAndGreatestDistance();
        cutFromADistanceOutOfRange();
        cutOfTheLeastWidth();
        cutTenWide();
        cutElevenWide();
        cutTwentyWide();
        cutTwentyOneWide();
        cutThirtyWide();
        cutTooWide();
        cutInPlaceOfTheOldOne();
        cutDecidesByTheFirstLine();
        refusedCutChangesNothing();
        removeAtTheFirstAndLastExit();
        removeOfNone();
        removeTwice();
        removeAtNoPlace();
        removeAtNoExit();
        refusedRemoveChangesNothing();
        isOldOfNone();
        isOldAtTheFirstAndLastExit();
        isOldByOneShapeOfFive();
        isOldByItsOwnGlyphsAlone();
        isOldNoMoreWhenTheShapeIsBack();
        isOldAtNoPlace();
        isOldAtNoExit();
        refusedIsOldChangesNothing();
        remakeOfNoSigns();
        remakeOfNoneThatIsOld();
        remakeOfAllExits();
        remakeOfSome();
        remakeTwice();
        remakeThirtyWide();
        remakeTooWide();
        remakeLeavesTooWideOnesThatAreNotOld();
        remakeLeavesTooWideOnesThatWereTakenAway();
        refusedRemakeChangesNothing();
        readOfNone();
        readOfTheLowestAndHighestText();
        readNearestOfSeveral();
        readSecondOfSeveral();
        readAllAlike();
        readFromZero();
        readFromTheGapItself();
        readFromNine();
        readAsManyGlyphs();
        readShapesAsTheyWere();
        readAtNoPlace();
        readAtNoExit();
        refusedReadChangesNothing();
        costOfNothing();
        costOfEachPlate();
        costOfTheOnesTakenAway();
        costOfTheOnesReplaced();
        costOfRefusedCuts();
        costOfAllCalls();
        Due.end();
    }

    /** Glyph 7 is 5 wide and stands close to itself, glyph 1 is 1 wide, the others are 2 wide. */
    private static SignRail withWideGlyph() {
        SignRail x = new SignRail();
        x.stroke(7, 0, 0, 4, 0, true);
        x.stroke(1, 0, 0, 0, 4, true);
        x.space(7, 7, 0);
        return x;
    }

    // ---- promise 9

    private static void cutAtTheFirstAndLastExit() {
        Due.sentence("9: place: 0 to 7, exit: 0 to 3");
        SignRail x = withWideGlyph();
        for (int place : new int[] {0, 7}) {
            for (int exit : new int[] {0, 3}) {
                Due.is("cut", x.cut(place, exit, 7, 1, 0), 4);
                Due.is("read", x.read(place, exit), 7);
            }
        }
        Due.is("the next exit", x.read(0, 1), -1);
        Due.is("the next place", x.read(1, 0), -1);
        Due.is("the last but one exit", x.read(7, 2), -1);
        Due.is("the last but one place", x.read(6, 3), -1);
    }

    private static void cutAtNoPlace() {
        Due.sentence("9: IndexOutOfBoundsException if there is no such place");
        SignRail x = new SignRail();
        for (int bad : Wrong.PLACES) {
            for (int exit = 0; exit < 4; exit++) {
                int good = exit;
                Due.throwsIndex("place " + bad, () -> x.cut(bad, good, 0, 1, 0));
            }
        }
    }

    private static void cutAtNoExit() {
        Due.sentence("9: IndexOutOfBoundsException if there is no such exit");
        SignRail x = new SignRail();
        for (int bad : Wrong.EXITS) {
            for (int place = 0; place < 8; place++) {
                int good = place;
                Due.throwsIndex("exit " + bad + " of " + place, () -> x.cut(good, bad, 0, 1, 0));
            }
        }
    }

    private static void cutOfTheLowestAndHighestText() {
        Due.sentence("9: a text has 1 to 5 glyphs, is 0 or more, and less than 8 to the power of their number");
        SignRail x = new SignRail();
        x.stroke(7, 0, 0, 0, 4, true);
        for (int many = 1; many <= 5; many++) {
            Due.is("the lowest of " + many, x.cut(0, 0, 0, many, 0), many <= 3 ? 4 : 7);
            Due.is("it is read", x.read(0, 0), 0);
            Due.is("the highest of " + many, x.cut(0, 0, LIMITS[many - 1] - 1, many, 0), 4);
            Due.is("it is read", x.read(0, 0), LIMITS[many - 1] - 1);
        }
    }

    private static void cutOfTooFewOrTooManyGlyphs() {
        Due.sentence("9: IllegalArgumentException if the text has not 1 to 5 glyphs");
        SignRail x = new SignRail();
        for (int bad : Wrong.LENGTHS) {
            Due.throwsArgument("of " + bad, () -> x.cut(0, 0, 0, bad, 0));
            Due.throwsArgument("1 of " + bad, () -> x.cut(0, 0, 1, bad, 0));
        }
    }

    private static void cutBelowZero() {
        Due.sentence("9: IllegalArgumentException if the text is below 0");
        SignRail x = new SignRail();
        for (int many = 1; many <= 5; many++) {
            int good = many;
            Due.throwsArgument("-1 of " + many, () -> x.cut(0, 0, -1, good, 0));
            Due.throwsArgument("the least int of " + many, () -> x.cut(0, 0, Integer.MIN_VALUE, good, 0));
        }
    }

    private static void cutNotLessThanThePower() {
        Due.sentence("9: IllegalArgumentException if the text is not less than 8 to the power of their number");
        SignRail x = new SignRail();
        for (int many = 1; many <= 5; many++) {
            int good = many;
            Due.throwsArgument("the first above, of " + many, () -> x.cut(0, 0, LIMITS[good - 1], good, 0));
            Due.throwsArgument("the greatest int of " + many, () -> x.cut(0, 0, Integer.MAX_VALUE, good, 0));
        }
    }

    private static void cutFromTheLeastAndGreatestDistance() {
        Due.sentence("9: distance: 0 to 9");
        SignRail x = new SignRail();
        Due.is("0", x.cut(0, 0, 1, 1, 0), 4);
        Due.is("the first of those alike", x.read(0, 0), 0);
        Due.is("9", x.cut(0, 0, 1, 1, 9), 4);
        Due.is("the second of those alike", x.read(0, 0), 1);
    }

    private static void cutFromADistanceOutOfRange() {
        Due.sentence("9: IllegalArgumentException if distance is out of range");
        SignRail x = new SignRail();
        for (int bad : Wrong.DISTANCES) {
            Due.throwsArgument("distance " + bad, () -> x.cut(7, 3, 0, 1, bad));
        }
    }

    private static void cutOfTheLeastWidth() {
        Due.sentence("9: the least plate that is at least as wide: for a text 1 wide");
        SignRail x = withWideGlyph();
        Due.is("one glyph", x.cut(0, 0, 1, 1, 0), 4);
        x.space(1, 1, -1);
        Due.is("five glyphs", x.cut(0, 0, 011111, 5, 0), 4);
    }

    private static void cutTenWide() {
        Due.sentence("9: a plate of 10 costs 4: a text 10 wide");
        SignRail x = withWideGlyph();
        Due.is("width", x.textWidth(077, 2), 10);
        Due.is("cut", x.cut(0, 0, 077, 2, 0), 4);
    }

    private static void cutElevenWide() {
        Due.sentence("9: a plate of 20 costs 7: a text 11 wide");
        SignRail x = withWideGlyph();
        x.space(7, 7, 1);
        Due.is("width", x.textWidth(077, 2), 11);
        Due.is("cut", x.cut(0, 0, 077, 2, 0), 7);
    }

    private static void cutTwentyWide() {
        Due.sentence("9: a plate of 20 costs 7: a text 20 wide");
        SignRail x = withWideGlyph();
        Due.is("width", x.textWidth(07777, 4), 20);
        Due.is("cut", x.cut(0, 0, 07777, 4, 0), 7);
    }

    private static void cutTwentyOneWide() {
        Due.sentence("9: a plate of 30 costs 10: a text 21 wide");
        SignRail x = withWideGlyph();
        x.space(7, 7, -1);
        Due.is("width", x.textWidth(077777, 5), 21);
        Due.is("cut", x.cut(0, 0, 077777, 5, 0), 10);
    }

    private static SignRail thirtyWide() {
        SignRail x = withWideGlyph();
        x.space(7, 7, 2);
        x.space(7, 1, 3);
        // 5 + 2 + 5 + 2 + 5 + 2 + 5 + 3 + 1
        Due.is("width", x.textWidth(077771, 5), 30);
        return x;
    }

    private static void cutThirtyWide() {
        Due.sentence("9: a plate of 30 costs 10: a text 30 wide");
        SignRail x = thirtyWide();
        Due.is("cut", x.cut(0, 0, 077771, 5, 0), 10);
        Due.is("it is read", x.read(0, 0), 077771);
    }

    private static void cutTooWide() {
        Due.sentence("9: IllegalStateException if the text is too wide for any plate");
        SignRail x = thirtyWide();
        x.stroke(1, 1, 0, 1, 0, true);
        Due.is("width", x.textWidth(077771, 5), 31);
        Due.throwsState("31 wide", () -> x.cut(0, 0, 077771, 5, 0));
        x.space(7, 7, 3);
        Due.is("width", x.textWidth(077777, 5), 37);
        Due.throwsState("37 wide", () -> x.cut(7, 3, 077777, 5, 9));
        Due.is("no sign", x.remove(0, 0), false);
        Due.is("no other sign", x.remove(7, 3), false);
    }

    private static void cutInPlaceOfTheOldOne() {
        Due.sentence("9: in place of the one that it has");
        SignRail x = withWideGlyph();
        x.cut(0, 0, 07177, 4, 0);
        Due.is("a shorter one", x.cut(0, 0, 1, 1, 9), 4);
        Due.is("from its own distance", x.read(0, 0), 0);
        x.stroke(7, 0, 0, 0, 0, false);
        Due.is("nothing of the longer one is left", x.isOld(0, 0), false);
        Due.is("a longer one", x.cut(0, 0, 017, 2, 0), 4);
        Due.is("both glyphs", x.read(0, 0), 017);
        Due.is("one sign", x.remove(0, 0), true);
        Due.is("not two", x.remove(0, 0), false);
    }

    private static void cutDecidesByTheFirstLine() {
        Due.sentence("9: the first line of the throws clause that applies decides");
        SignRail x = withWideGlyph();
        x.space(7, 7, 3);
        Due.throwsIndex("place and text", () -> x.cut(8, 0, 8, 1, 0));
        Due.throwsIndex("exit and many", () -> x.cut(0, 4, 0, 6, 0));
        Due.throwsIndex("exit and distance", () -> x.cut(0, -1, 0, 1, 10));
        Due.throwsIndex("place and width", () -> x.cut(-1, 0, 077777, 5, 0));
        Due.throwsIndex("exit and width", () -> x.cut(7, 4, 077777, 5, 0));
        Due.throwsArgument("distance and width", () -> x.cut(0, 0, 077777, 5, 10));
        Due.throwsArgument("distance below and width", () -> x.cut(0, 0, 077777, 5, -1));
    }

    private static void refusedCutChangesNothing() {
        Due.sentence("9: a call that throws changes nothing");
        Picture.unchangedBy("cut", x -> {
            Due.throwsIndex("place 8", () -> x.cut(8, 3, 0, 1, 0));
            Due.throwsIndex("exit 4", () -> x.cut(0, 4, 0, 1, 0));
            Due.throwsIndex("exit -1", () -> x.cut(1, -1, 0, 1, 0));
            Due.throwsArgument("many", () -> x.cut(0, 3, 0, 6, 0));
            Due.throwsArgument("text", () -> x.cut(7, 3, 64, 2, 0));
            Due.throwsArgument("distance", () -> x.cut(0, 3, 0, 1, 10));
        });
        SignRail x = withWideGlyph();
        x.cut(2, 2, 017, 2, 1);
        x.space(7, 7, 3);
        Due.throwsState("width", () -> x.cut(2, 2, 077777, 5, 9));
        Due.is("the old text", x.read(2, 2), 017);
        Due.is("is not old", x.isOld(2, 2), false);
        Due.is("and alone is paid", x.cost(), 4);
    }

    // ---- promise 10

    private static void removeAtTheFirstAndLastExit() {
        Due.sentence("10: place: 0 to 7, exit: 0 to 3");
        SignRail x = new SignRail();
        for (int way : new int[] {0, 3, 28, 31}) {
            x.cut(way / 4, way % 4, 0, 1, 0);
        }
        Due.is("the exit between", x.remove(0, 1), false);
        Due.is("the place between", x.remove(1, 0), false);
        for (int way : new int[] {0, 3, 28, 31}) {
            Due.is("read before", x.read(way / 4, way % 4), 0);
            Due.is("remove " + way, x.remove(way / 4, way % 4), true);
            Due.is("read " + way, x.read(way / 4, way % 4), -1);
        }
    }

    private static void removeOfNone() {
        Due.sentence("10: returns whether there was one: none");
        SignRail x = new SignRail();
        x.lead(0, 0, 1);
        Due.is("an exit that leads somewhere", x.remove(0, 0), false);
        Due.is("still", x.lead(0, 0, 2), 1);
    }

    private static void removeTwice() {
        Due.sentence("10: takes a sign away");
        SignRail x = new SignRail();
        x.cut(0, 0, 32767, 5, 9);
        Due.is("once", x.remove(0, 0), true);
        Due.is("twice", x.remove(0, 0), false);
        x.cut(0, 0, 0, 1, 0);
        Due.is("a new one", x.remove(0, 0), true);
    }

    private static void removeAtNoPlace() {
        Due.sentence("10: IndexOutOfBoundsException if there is no such place");
        SignRail x = new SignRail();
        for (int bad : Wrong.PLACES) {
            Due.throwsIndex("place " + bad, () -> x.remove(bad, 0));
            Due.throwsIndex("place " + bad, () -> x.remove(bad, 3));
        }
    }

    private static void removeAtNoExit() {
        Due.sentence("10: IndexOutOfBoundsException if there is no such exit");
        SignRail x = new SignRail();
        for (int bad : Wrong.EXITS) {
            Due.throwsIndex("exit " + bad, () -> x.remove(0, bad));
            Due.throwsIndex("exit " + bad, () -> x.remove(7, bad));
            Due.throwsIndex("exit " + bad, () -> x.remove(1, bad));
        }
    }

    private static void refusedRemoveChangesNothing() {
        Due.sentence("10: a call that throws changes nothing");
        Picture.unchangedBy("remove", x -> {
            Due.throwsIndex("place 8", () -> x.remove(8, 3));
            Due.throwsIndex("place -1", () -> x.remove(-1, 3));
            Due.throwsIndex("exit 7", () -> x.remove(6, 7));
            Due.throwsIndex("exit -1", () -> x.remove(1, -1));
        });
    }

    // ---- promise 11

    private static void isOldOfNone() {
        Due.sentence("11: false if there is none");
        SignRail x = new SignRail();
        x.cut(0, 0, 0, 1, 0);
        x.stroke(0, 0, 0, 0, 0, true);
        Due.is("with a sign", x.isOld(0, 0), true);
        Due.is("never cut", x.isOld(0, 1), false);
        x.remove(0, 0);
        Due.is("taken away", x.isOld(0, 0), false);
    }

    private static void isOldAtTheFirstAndLastExit() {
        Due.sentence("11: place: 0 to 7, exit: 0 to 3");
        SignRail x = new SignRail();
        for (int way : new int[] {0, 3, 28, 31}) {
            x.cut(way / 4, way % 4, 7, 1, 0);
        }
        x.stroke(7, 4, 4, 4, 4, true);
        for (int way = 0; way < 32; way++) {
            boolean has = way == 0 || way == 3 || way == 28 || way == 31;
            Due.is("exit " + way, x.isOld(way / 4, way % 4), has);
        }
    }

    private static void isOldByOneShapeOfFive() {
        Due.sentence("11: old, if a shape on it is not that of its glyph now: one of five");
        for (int glyph = 1; glyph <= 5; glyph++) {
            for (int cell : new int[] {0, 4, 12, 20, 24}) {
                SignRail x = new SignRail();
                x.cut(0, 0, 012345, 5, 0);
                Due.is("before", x.isOld(0, 0), false);
                x.stroke(glyph, cell % 5, cell / 5, cell % 5, cell / 5, true);
                Due.is("glyph " + glyph + " by cell " + cell, x.isOld(0, 0), true);
            }
        }
    }

    private static void isOldByItsOwnGlyphsAlone() {
        Due.sentence("11: its glyph: no other one, nor a space, a name or an exit");
        SignRail x = new SignRail();
        x.cut(0, 0, 3, 2, 0);
        for (int glyph : new int[] {1, 2, 4, 5, 6, 7}) {
            x.stroke(glyph, 0, 0, 4, 4, true);
        }
        x.space(0, 3, 3);
        x.name(0, 3, 2);
        x.lead(0, 0, 1);
        Due.is("0 3", x.isOld(0, 0), false);
        x.stroke(0, 0, 0, 0, 0, true);
        Due.is("by its leading 0", x.isOld(0, 0), true);
    }

    private static void isOldNoMoreWhenTheShapeIsBack() {
        Due.sentence("11: not that of its glyph now");
        SignRail x = new SignRail();
        x.stroke(5, 1, 1, 3, 3, true);
        x.cut(0, 0, 5, 1, 0);
        x.stroke(5, 1, 1, 3, 3, true);
        Due.is("a stroke that changes nothing", x.isOld(0, 0), false);
        x.stroke(5, 2, 2, 2, 2, false);
        Due.is("a cell less", x.isOld(0, 0), true);
        x.stroke(5, 2, 2, 2, 2, true);
        Due.is("back", x.isOld(0, 0), false);
        x.stroke(5, 0, 0, 0, 0, true);
        Due.is("a cell more", x.isOld(0, 0), true);
    }

    private static void isOldAtNoPlace() {
        Due.sentence("11: IndexOutOfBoundsException if there is no such place");
        SignRail x = new SignRail();
        for (int bad : Wrong.PLACES) {
            Due.throwsIndex("place " + bad, () -> x.isOld(bad, 0));
            Due.throwsIndex("place " + bad, () -> x.isOld(bad, 3));
        }
    }

    private static void isOldAtNoExit() {
        Due.sentence("11: IndexOutOfBoundsException if there is no such exit");
        SignRail x = new SignRail();
        for (int bad : Wrong.EXITS) {
            Due.throwsIndex("exit " + bad, () -> x.isOld(0, bad));
            Due.throwsIndex("exit " + bad, () -> x.isOld(7, bad));
            Due.throwsIndex("exit " + bad, () -> x.isOld(1, bad));
        }
    }

    private static void refusedIsOldChangesNothing() {
        Due.sentence("11: a call that throws changes nothing");
        Picture.unchangedBy("isOld", x -> {
            Due.throwsIndex("place 8", () -> x.isOld(8, 3));
            Due.throwsIndex("exit 4", () -> x.isOld(0, 4));
        });
    }

    // ---- promise 12

    private static void remakeOfNoSigns() {
        Due.sentence("12: returns how many they are: no signs");
        SignRail x = new SignRail();
        x.stroke(0, 0, 0, 4, 0, true);
        Due.is("none", x.remake(), 0);
        Due.is("no cost", x.cost(), 0);
    }

    private static void remakeOfNoneThatIsOld() {
        Due.sentence("12: returns how many they are: none that is old");
        SignRail x = new SignRail();
        x.cut(0, 0, 0, 1, 0);
        x.stroke(1, 0, 0, 4, 0, true);
        Due.is("none", x.remake(), 0);
        Due.is("the first cost", x.cost(), 4);
    }

    private static void remakeOfAllExits() {
        Due.sentence("12: cuts all old signs anew: all 32");
        SignRail x = new SignRail();
        for (int way = 0; way < 32; way++) {
            x.cut(way / 4, way % 4, 5, 1, 0);
        }
        x.stroke(5, 0, 0, 4, 4, true);
        Due.is("all", x.remake(), 32);
        Due.is("twice", x.cost(), 2 * 32 * 4);
        for (int way = 0; way < 32; way++) {
            Due.is("old " + way, x.isOld(way / 4, way % 4), false);
            Due.is("read " + way, x.read(way / 4, way % 4), 5);
        }
    }

    private static void remakeOfSome() {
        Due.sentence("12: cuts all old signs anew: with their texts and distances, at the first and last exit");
        SignRail x = new SignRail();
        x.cut(0, 0, 05, 2, 0);
        x.cut(3, 1, 6, 1, 0);
        x.cut(7, 3, 5, 3, 6);
        x.stroke(5, 0, 0, 4, 4, true);
        Due.is("two", x.remake(), 2);
        Due.is("0 5 from 0", x.read(0, 0), 05);
        Due.is("6 from 0", x.read(3, 1), 0);
        Due.is("0 0 5 from 6", x.read(7, 3), 0110);
        Due.is("the last one is 11 wide now", x.cost(), 3 * 4 + 4 + 7);
    }

    private static void remakeTwice() {
        Due.sentence("12: a sign that was cut anew is not old");
        SignRail x = new SignRail();
        x.cut(4, 2, 7, 1, 0);
        x.stroke(7, 0, 0, 0, 0, true);
        Due.is("once", x.remake(), 1);
        Due.is("twice", x.remake(), 0);
        x.stroke(7, 0, 0, 0, 0, false);
        Due.is("its first shape is another one now", x.remake(), 1);
        Due.is("cost", x.cost(), 3 * 4);
    }

    private static void remakeThirtyWide() {
        Due.sentence("12: too wide for any plate: 30 is not");
        SignRail x = thirtyWide();
        x.stroke(1, 1, 0, 1, 0, true);
        x.space(7, 1, 2);
        Due.is("cut", x.cut(7, 3, 077771, 5, 0), 10);
        x.stroke(1, 1, 0, 1, 0, false);
        x.space(7, 1, 3);
        Due.is("width", x.textWidth(077771, 5), 30);
        Due.is("remade", x.remake(), 1);
        Due.is("cost", x.cost(), 20);
    }

    private static void remakeTooWide() {
        Due.sentence("12: IllegalStateException if the text of one of them is too wide for any plate");
        for (int way : new int[] {0, 13, 31}) {
            SignRail x = thirtyWide();
            x.cut(way / 4, way % 4, 077771, 5, 0);
            x.stroke(1, 1, 0, 1, 0, true);
            Due.is("width", x.textWidth(077771, 5), 31);
            Due.throwsState("31 wide at " + way, () -> x.remake());
            Due.throwsState("and again", () -> x.remake());
            x.stroke(1, 1, 0, 1, 0, false);
            Due.is("as it was", x.remake(), 0);
        }
    }

    private static void remakeLeavesTooWideOnesThatAreNotOld() {
        Due.sentence("12: one of them: of the old ones");
        SignRail x = thirtyWide();
        x.cut(0, 0, 077771, 5, 0);
        x.cut(0, 1, 2, 1, 0);
        x.space(7, 7, 3);
        Due.is("width", x.textWidth(077771, 5), 33);
        x.stroke(2, 0, 0, 0, 0, true);
        Due.is("the other one", x.remake(), 1);
        Due.is("cost", x.cost(), 18);
    }

    private static void remakeLeavesTooWideOnesThatWereTakenAway() {
        Due.sentence("12: one of them: of the signs that there are");
        SignRail x = thirtyWide();
        x.cut(0, 0, 077771, 5, 0);
        x.stroke(1, 1, 0, 1, 0, true);
        Due.throwsState("with it", () -> x.remake());
        x.remove(0, 0);
        Due.is("without it", x.remake(), 0);
        Due.is("cost", x.cost(), 10);
    }

    private static void refusedRemakeChangesNothing() {
        Due.sentence("12: a call that throws changes nothing");
        SignRail x = thirtyWide();
        x.cut(0, 0, 1, 1, 1);
        x.cut(4, 0, 077771, 5, 0);
        x.cut(7, 3, 1, 1, 1);
        x.lead(0, 0, 2);
        x.stroke(1, 0, 0, 4, 0, true);
        int first = x.read(0, 0);
        int last = x.read(7, 3);
        Due.throwsState("the one between", () -> x.remake());
        Due.is("the first stays old", x.isOld(0, 0), true);
        Due.is("the wide one, too", x.isOld(4, 0), true);
        Due.is("the last, too", x.isOld(7, 3), true);
        Due.is("the first is read as before", x.read(0, 0), first);
        Due.is("the last, too", x.read(7, 3), last);
        Due.is("nothing more is paid", x.cost(), 4 + 10 + 4);
        x.space(7, 1, 0);
        x.space(7, 7, -1);
        Due.is("narrow again, all three", x.remake(), 3);
        Due.is("they are paid", x.cost(), 18 + 4 + 10 + 4);
    }

    // ---- promise 13

    private static void readOfNone() {
        Due.sentence("13: NONE if there is no sign");
        SignRail x = new SignRail();
        x.cut(7, 3, 0, 1, 0);
        Due.is("another exit", x.read(7, 2), SignRail.NONE);
        Due.is("a sign with the lowest text", x.read(7, 3), 0);
        x.remove(7, 3);
        Due.is("taken away", x.read(7, 3), SignRail.NONE);
    }

    private static void readOfTheLowestAndHighestText() {
        Due.sentence("13: returns the text: the lowest and the highest one");
        SignRail x = new SignRail();
        x.stroke(7, 0, 0, 4, 4, true);
        for (int many = 1; many <= 5; many++) {
            x.cut(0, 0, 0, many, 0);
            x.cut(7, 3, LIMITS[many - 1] - 1, many, 5);
            Due.is("the lowest of " + many, x.read(0, 0), 0);
            Due.is("the highest of " + many, x.read(7, 3), LIMITS[many - 1] - 1);
        }
    }

    private static void readNearestOfSeveral() {
        Due.sentence("13: the nearest one: of several the lowest number");
        SignRail x = new SignRail();
        x.stroke(3, 0, 0, 4, 0, true);
        x.stroke(6, 0, 0, 4, 0, true);
        x.stroke(7, 0, 0, 4, 0, true);
        for (int glyph : new int[] {3, 6, 7}) {
            x.cut(0, 0, glyph, 1, 0);
            Due.is("as " + glyph, x.read(0, 0), 3);
        }
        // Neither 3 nor 6 is the shape itself, and both are one cell away.
        x.stroke(3, 0, 0, 0, 0, false);
        x.stroke(6, 4, 0, 4, 0, false);
        x.stroke(7, 0, 0, 4, 0, false);
        Due.is("one cell away", x.read(0, 0), 3);
        x.stroke(3, 1, 0, 1, 0, false);
        Due.is("two cells away", x.read(0, 0), 6);
    }

    private static void readSecondOfSeveral() {
        Due.sentence("13: the second one is the nearest of the others: of several the lowest number");
        SignRail x = new SignRail();
        for (int glyph = 0; glyph < 8; glyph++) {
            x.cut(0, 0, glyph, 1, 9);
            x.stroke(glyph, 0, 0, 4, 0, true);
            x.cut(0, 1, glyph, 1, 9);
            Due.is("the empty one without " + glyph, x.read(0, 0), glyph == 0 ? 2 : glyph == 1 ? 2 : 1);
            Due.is("the row of " + glyph, x.read(0, 1), glyph == 0 ? 1 : 0);
            x.stroke(glyph, 0, 0, 4, 0, false);
        }
        x.stroke(0, 0, 0, 2, 0, true);
        x.stroke(7, 0, 0, 3, 0, true);
        x.cut(0, 2, 7, 1, 2);
        Due.is("the last is nearest, the first is second", x.read(0, 2), 0);
        x.cut(0, 2, 0, 1, 2);
        Due.is("the first is nearest, the last is second", x.read(0, 2), 7);
    }

    private static void readAllAlike() {
        Due.sentence("13: held against all glyphs of now: all of them alike");
        SignRail x = new SignRail();
        x.cut(0, 0, 7, 1, 0);
        x.cut(0, 1, 7, 1, 1);
        Due.is("empty, nearest", x.read(0, 0), 0);
        Due.is("empty, second", x.read(0, 1), 1);
        for (int glyph = 0; glyph < 8; glyph++) {
            for (int y = 0; y < 5; y++) {
                x.stroke(glyph, 0, y, 4, y, true);
            }
        }
        Due.is("all 25 away, nearest", x.read(0, 0), 0);
        Due.is("all 25 away, second", x.read(0, 1), 1);
    }

    private static void readFromZero() {
        Due.sentence("13: a distance of 0: the nearest one is always read");
        SignRail x = new SignRail();
        x.cut(0, 0, 1, 1, 0);
        Due.is("with others as near", x.read(0, 0), 0);
        x.stroke(1, 0, 0, 0, 0, true);
        x.cut(0, 0, 1, 1, 0);
        Due.is("by one cell", x.read(0, 0), 1);
    }

    private static void readFromTheGapItself() {
        Due.sentence("13: less that of the nearest one is the distance or more, otherwise the second one");
        for (int gap = 0; gap <= 8; gap++) {
            SignRail x = new SignRail();
            for (int i = 0; i < gap; i++) {
                x.stroke(5, i % 5, i / 5, i % 5, i / 5, true);
            }
            x.cut(0, 0, 5, 1, gap);
            x.cut(0, 1, 5, 1, gap + 1);
            Due.is("gap " + gap + " from it", x.read(0, 0), gap == 0 ? 0 : 5);
            Due.is("gap " + gap + " from one more", x.read(0, 1), gap == 0 ? 1 : 0);
        }
    }

    private static void readFromNine() {
        Due.sentence("13: the greatest distance, 9");
        SignRail x = new SignRail();
        x.stroke(2, 0, 0, 4, 0, true);
        x.stroke(2, 0, 1, 2, 1, true);
        x.cut(0, 0, 2, 1, 9);
        Due.is("8 apart", x.read(0, 0), 0);
        x.stroke(2, 3, 1, 3, 1, true);
        x.cut(0, 0, 2, 1, 9);
        Due.is("9 apart", x.read(0, 0), 2);
        x.stroke(2, 4, 1, 4, 1, true);
        x.cut(0, 0, 2, 1, 9);
        Due.is("10 apart", x.read(0, 0), 2);
    }

    private static void readAsManyGlyphs() {
        Due.sentence("13: so a sign is read as a text of as many glyphs");
        SignRail x = new SignRail();
        x.name(1, 0, 3);
        x.name(2, 0, 2);
        x.lead(0, 0, 2);
        x.lead(0, 3, 1);
        x.cut(0, 3, 7, 3, 0);
        Due.is("as 0 0 0", x.read(0, 3), 0);
        Due.is("for a walker to 0 0 0", x.placeBehind(0, 0, 3, 1), 1);
        Due.is("not for one to 0 0", x.placeBehind(0, 0, 2, 1), 2);
    }

    private static void readShapesAsTheyWere() {
        Due.sentence("13: the shapes of its glyphs as they were when it was cut, against all glyphs of now");
        SignRail x = new SignRail();
        x.stroke(4, 0, 0, 4, 0, true);
        x.cut(0, 0, 4, 1, 0);
        x.stroke(4, 0, 0, 4, 0, false);
        Due.is("none is like it", x.read(0, 0), 0);
        x.stroke(6, 0, 0, 4, 0, true);
        Due.is("another one is like it", x.read(0, 0), 6);
        x.space(4, 4, 3);
        x.remake();
        Due.is("cut anew", x.read(0, 0), 0);
    }

    private static void readAtNoPlace() {
        Due.sentence("13: IndexOutOfBoundsException if there is no such place");
        SignRail x = new SignRail();
        for (int bad : Wrong.PLACES) {
            Due.throwsIndex("place " + bad, () -> x.read(bad, 0));
            Due.throwsIndex("place " + bad, () -> x.read(bad, 3));
        }
    }

    private static void readAtNoExit() {
        Due.sentence("13: IndexOutOfBoundsException if there is no such exit");
        SignRail x = new SignRail();
        for (int bad : Wrong.EXITS) {
            Due.throwsIndex("exit " + bad, () -> x.read(0, bad));
            Due.throwsIndex("exit " + bad, () -> x.read(7, bad));
            Due.throwsIndex("exit " + bad, () -> x.read(1, bad));
        }
    }

    private static void refusedReadChangesNothing() {
        Due.sentence("13: a call that throws changes nothing");
        Picture.unchangedBy("read", x -> {
            Due.throwsIndex("place 8", () -> x.read(8, 3));
            Due.throwsIndex("exit 4", () -> x.read(0, 4));
        });
    }

    // ---- promise 14

    private static void costOfNothing() {
        Due.sentence("14: so far: nothing");
        SignRail x = new SignRail();
        Due.is("at first", x.cost(), 0);
        x.remove(0, 0);
        x.textWidth(0, 5);
        x.name(0, 0, 5);
        Due.is("without a plate", x.cost(), 0);
    }

    private static void costOfEachPlate() {
        Due.sentence("14: what all plates cost: 4, 7 and 10");
        SignRail x = withWideGlyph();
        x.cut(0, 0, 7, 1, 0);
        Due.is("one of 10", x.cost(), 4);
        x.cut(0, 1, 0777, 3, 0);
        Due.is("one of 20", x.cost(), 11);
        x.cut(0, 2, 077777, 5, 0);
        Due.is("one of 30", x.cost(), 21);
        Due.is("asked again", x.cost(), 21);
    }

    private static void costOfTheOnesTakenAway() {
        Due.sentence("14: of signs that were taken away, too: by remove");
        SignRail x = withWideGlyph();
        x.cut(0, 0, 077777, 5, 0);
        x.remove(0, 0);
        Due.is("one", x.cost(), 10);
        x.remove(0, 0);
        Due.is("none more", x.cost(), 10);
    }

    private static void costOfTheOnesReplaced() {
        Due.sentence("14: of signs that were taken away, too: by cut and remake in place of the old ones");
        SignRail x = withWideGlyph();
        x.cut(0, 0, 077777, 5, 0);
        x.cut(0, 0, 077777, 5, 0);
        Due.is("the same one cut twice", x.cost(), 20);
        x.stroke(7, 4, 0, 4, 0, false);
        x.remake();
        Due.is("remade 20 wide", x.cost(), 27);
        x.remake();
        Due.is("not remade", x.cost(), 27);
    }

    private static void costOfRefusedCuts() {
        Due.sentence("14: what all plates cost: a refused cut has none");
        SignRail x = withWideGlyph();
        x.space(7, 7, 3);
        Due.throwsState("too wide", () -> x.cut(0, 0, 077777, 5, 0));
        Due.throwsArgument("no text", () -> x.cut(0, 0, 8, 1, 0));
        Due.throwsIndex("no exit", () -> x.cut(0, 4, 0, 1, 0));
        Due.is("nothing", x.cost(), 0);
    }

    private static void costOfAllCalls() {
        Due.sentence("14: what all plates cost so far: in 512 calls");
        SignRail x = withWideGlyph();
        for (int call = 3; call < 511; call++) {
            x.cut(call / 4 % 8, call % 4, 077777, 5, 9);
        }
        Due.is("508 plates of 30", x.cost(), 5080);
        SignRail y = new SignRail();
        for (int way = 0; way < 32; way++) {
            y.cut(way / 4, way % 4, 0, 5, 0);
        }
        for (int round = 0; round < 239; round++) {
            y.stroke(0, 0, 0, 1, 0, round % 2 == 0);
            y.remake();
        }
        Due.is("32 plates of 20, remade each time", y.cost(), 240 * 32 * 7);
    }
}
