/** Each sentence on exits, names and the widths of texts that names a boundary case: promises 1 and 6 to 8. */
public final class EdgeStationTest {
    private static final int[] LIMITS = {8, 64, 512, 4096, 32768};

    public static void main(String[] args) {
        newExitsLeadNowhere();
        newPlacesHaveNoNames();
        newExitsHaveNoSigns();
        leadOfTheFirstAndLast();
        leadToTheFirstAndLast();
        leadNowhereAgain();
        leadToItself();
        leadOfNoPlace();
        leadOfNoExit();
        leadToNoPlace();
        refusedLeadChangesNothing();
        nameOfTheFirstAndLastPlace();
        nameOfNoPlace();
        nameInPlaceOfTheOldOne();
        nameOfSeveralPlaces();
        nameOfTheLowestAndHighestText();
        nameOfTooFewOrTooManyGlyphs();
        nameBelowZero();
        nameNotLessThanThePower();
        nameOfNoPlaceDecidesFirst();
        refusedNameChangesNothing();
        textWidthOfOneGlyph();
        textWidthOfFiveGlyphs();
        textWidthLeast();
        textWidthMost();
        textWidthCountsLeadingZeros();
        textWidthOfTheLowestAndHighest();
        textWidthOfTooFewOrTooManyGlyphs();
        textWidthBelowZero();
        textWidthNotLessThanThePower();
        textWidthIsOfNow();
        refusedTextWidthChangesNothing();
        Due.end();
    }

    // ---- promise 1

    private static void newExitsLeadNowhere() {
        Due.sentence("1: exits that lead nowhere, as at first");
        SignRail x = new SignRail();
        for (int way = 0; way < 32; way++) {
            Due.is("exit " + way, x.lead(way / 4, way % 4, 0), -1);
        }
    }

    private static void newPlacesHaveNoNames() {
        Due.sentence("1: no names");
        SignRail x = new SignRail();
        for (int place = 0; place < 8; place++) {
            for (int many = 1; many <= 5; many++) {
                Due.is("place " + place + " named 0", x.walkBySteps(place, 0, many), -1);
                Due.is("place " + place + " named the highest", x.walkBySteps(place, LIMITS[many - 1] - 1, many), -1);
            }
        }
    }

    private static void newExitsHaveNoSigns() {
        Due.sentence("1: no signs");
        SignRail x = new SignRail();
        for (int way = 0; way < 32; way++) {
            Due.is("read " + way, x.read(way / 4, way % 4), -1);
            Due.is("isOld " + way, x.isOld(way / 4, way % 4), false);
            Due.is("remove " + way, x.remove(way / 4, way % 4), false);
        }
        Due.is("remake", x.remake(), 0);
        Due.is("cost", x.cost(), 0);
    }

    // ---- promise 6

    private static void leadOfTheFirstAndLast() {
        Due.sentence("6: place: 0 to 7, exit: 0 to 3");
        SignRail x = new SignRail();
        for (int place : new int[] {0, 7}) {
            for (int exit : new int[] {0, 3}) {
                Due.is("at first", x.lead(place, exit, place), -1);
                Due.is("then", x.lead(place, exit, 7 - place), place);
            }
        }
        Due.is("the next exit", x.lead(0, 1, 1), -1);
        Due.is("the next place", x.lead(1, 0, 1), -1);
        Due.is("the last but one exit", x.lead(7, 2, 1), -1);
    }

    private static void leadToTheFirstAndLast() {
        Due.sentence("6: to: 0 to 7, or NONE: 0 and 7");
        SignRail x = new SignRail();
        x.name(0, 5, 1);
        x.name(7, 6, 1);
        x.lead(3, 0, 0);
        Due.is("to the first", x.walk(3, 5, 1), 1);
        Due.is("it is answered", x.lead(3, 0, 7), 0);
        Due.is("to the last", x.walk(3, 6, 1), 1);
        Due.is("it is answered, too", x.lead(3, 0, 0), 7);
    }

    private static void leadNowhereAgain() {
        Due.sentence("6: to: 0 to 7, or NONE: NONE");
        SignRail x = new SignRail();
        x.name(7, 6, 1);
        x.lead(3, 0, 7);
        Due.is("where it led before", x.lead(3, 0, SignRail.NONE), 7);
        Due.is("nowhere", x.walk(3, 6, 1), -1);
        Due.is("nowhere twice", x.lead(3, 0, SignRail.NONE), -1);
        Due.is("nowhere before", x.lead(3, 0, 7), -1);
    }

    private static void leadToItself() {
        Due.sentence("6: an exit leads to a place: to its own");
        SignRail x = new SignRail();
        Due.is("at first", x.lead(7, 3, 7), -1);
        Due.is("then", x.lead(7, 3, 7), 7);
        Due.is("a walker stays", x.placeBehind(7, 0, 1, 30), 7);
    }

    private static void leadOfNoPlace() {
        Due.sentence("6: IndexOutOfBoundsException if there is no such place");
        SignRail x = new SignRail();
        for (int bad : Wrong.PLACES) {
            for (int exit = 0; exit < 4; exit++) {
                int good = exit;
                Due.throwsIndex("place " + bad, () -> x.lead(bad, good, 0));
                Due.throwsIndex("place " + bad + " to nowhere", () -> x.lead(bad, good, SignRail.NONE));
            }
        }
    }

    private static void leadOfNoExit() {
        Due.sentence("6: IndexOutOfBoundsException if there is no such exit");
        SignRail x = new SignRail();
        for (int bad : Wrong.EXITS) {
            for (int place = 0; place < 8; place++) {
                int good = place;
                Due.throwsIndex("exit " + bad + " of " + place, () -> x.lead(good, bad, 0));
            }
        }
    }

    private static void leadToNoPlace() {
        Due.sentence("6: IndexOutOfBoundsException if to is neither a place nor NONE");
        SignRail x = new SignRail();
        for (int bad : new int[] {-2, 8, -8, 32, Integer.MIN_VALUE, Integer.MAX_VALUE}) {
            Due.throwsIndex("to " + bad, () -> x.lead(0, 0, bad));
        }
    }

    private static void refusedLeadChangesNothing() {
        Due.sentence("6: a call that throws changes nothing");
        Picture.unchangedBy("lead", x -> {
            Due.throwsIndex("place -1", () -> x.lead(-1, 3, 5));
            Due.throwsIndex("place 8", () -> x.lead(8, 0, 5));
            Due.throwsIndex("exit 4", () -> x.lead(0, 4, 5));
            Due.throwsIndex("exit -1", () -> x.lead(1, -1, 5));
            Due.throwsIndex("to 8", () -> x.lead(0, 3, 8));
            Due.throwsIndex("to -2", () -> x.lead(7, 3, -2));
        });
    }

    // ---- promise 7

    private static void nameOfTheFirstAndLastPlace() {
        Due.sentence("7: place: 0 to 7");
        SignRail x = new SignRail();
        x.name(0, 5, 1);
        x.name(7, 6, 1);
        Due.is("place 0", x.walk(0, 5, 1), 0);
        Due.is("place 7", x.walk(7, 6, 1), 0);
        Due.is("not place 1", x.walk(1, 5, 1), -1);
        Due.is("not place 6", x.walk(6, 6, 1), -1);
    }

    private static void nameOfNoPlace() {
        Due.sentence("7: IndexOutOfBoundsException if there is no such place");
        SignRail x = new SignRail();
        for (int bad : Wrong.PLACES) {
            Due.throwsIndex("place " + bad, () -> x.name(bad, 0, 1));
        }
    }

    private static void nameInPlaceOfTheOldOne() {
        Due.sentence("7: in place of the one that it has");
        SignRail x = new SignRail();
        x.name(4, 5, 1);
        x.name(4, 5, 2);
        Due.is("the old one", x.walk(4, 5, 1), -1);
        Due.is("the new one", x.walk(4, 5, 2), 0);
        x.name(4, 5, 2);
        Due.is("the same one again", x.walk(4, 5, 2), 0);
    }

    private static void nameOfSeveralPlaces() {
        Due.sentence("7: a place can have a name: one that another has, too");
        SignRail x = new SignRail();
        for (int place = 0; place < 8; place++) {
            x.name(place, 3, 3);
        }
        for (int place = 0; place < 8; place++) {
            Due.is("place " + place, x.walk(place, 3, 3), 0);
        }
    }

    private static void nameOfTheLowestAndHighestText() {
        Due.sentence("7: a text has 1 to 5 glyphs, is 0 or more, and less than 8 to the power of their number");
        SignRail x = new SignRail();
        for (int many = 1; many <= 5; many++) {
            x.name(2, 0, many);
            Due.is("the lowest of " + many, x.walk(2, 0, many), 0);
            Due.is("not the highest of " + many, x.walk(2, LIMITS[many - 1] - 1, many), -1);
            x.name(2, LIMITS[many - 1] - 1, many);
            Due.is("the highest of " + many, x.walk(2, LIMITS[many - 1] - 1, many), 0);
        }
        x.name(2, 7, 1);
        Due.is("7 is not 0 7", x.walk(2, 7, 2), -1);
        x.name(2, 7, 5);
        Due.is("0 0 0 0 7 is not 7", x.walk(2, 7, 1), -1);
    }

    private static void nameOfTooFewOrTooManyGlyphs() {
        Due.sentence("7: IllegalArgumentException if the text has not 1 to 5 glyphs");
        SignRail x = new SignRail();
        for (int bad : Wrong.LENGTHS) {
            Due.throwsArgument("of " + bad, () -> x.name(0, 0, bad));
            Due.throwsArgument("1 of " + bad, () -> x.name(7, 1, bad));
        }
    }

    private static void nameBelowZero() {
        Due.sentence("7: IllegalArgumentException if the text is below 0");
        SignRail x = new SignRail();
        for (int many = 1; many <= 5; many++) {
            int good = many;
            Due.throwsArgument("-1 of " + many, () -> x.name(0, -1, good));
            Due.throwsArgument("the least int of " + many, () -> x.name(0, Integer.MIN_VALUE, good));
        }
    }

    private static void nameNotLessThanThePower() {
        Due.sentence("7: IllegalArgumentException if the text is not less than 8 to the power of their number");
        SignRail x = new SignRail();
        for (int many = 1; many <= 5; many++) {
            int good = many;
            Due.throwsArgument("the first above, of " + many, () -> x.name(0, LIMITS[good - 1], good));
            Due.throwsArgument("the greatest int of " + many, () -> x.name(0, Integer.MAX_VALUE, good));
        }
    }

    private static void nameOfNoPlaceDecidesFirst() {
        Due.sentence("7: the first line of the throws clause that applies decides");
        SignRail x = new SignRail();
        Due.throwsIndex("place and many", () -> x.name(8, 0, 0));
        Due.throwsIndex("place and text", () -> x.name(-1, 8, 1));
    }

    private static void refusedNameChangesNothing() {
        Due.sentence("7: a call that throws changes nothing");
        Picture.unchangedBy("name", x -> {
            Due.throwsIndex("place 8", () -> x.name(8, 0, 1));
            Due.throwsIndex("place -1", () -> x.name(-1, 0, 1));
            Due.throwsArgument("many 6", () -> x.name(3, 0, 6));
            Due.throwsArgument("many 0", () -> x.name(7, 0, 0));
            Due.throwsArgument("text 8", () -> x.name(3, 8, 1));
            Due.throwsArgument("text -1", () -> x.name(0, -1, 1));
        });
    }

    // ---- promise 8

    private static void textWidthOfOneGlyph() {
        Due.sentence("8: a text has 1 to 5 glyphs: one has no space");
        SignRail x = new SignRail();
        for (int glyph = 0; glyph < 8; glyph++) {
            x.space(glyph, glyph, 3);
            x.space(0, glyph, 3);
            x.space(glyph, 0, 3);
            Due.is("empty " + glyph, x.textWidth(glyph, 1), 2);
        }
        x.stroke(0, 0, 0, 4, 0, true);
        x.stroke(7, 4, 0, 4, 4, true);
        Due.is("5 wide", x.textWidth(0, 1), 5);
        Due.is("1 wide", x.textWidth(7, 1), 1);
    }

    private static void textWidthOfFiveGlyphs() {
        Due.sentence("8: a text has 1 to 5 glyphs: five have four spaces, of each two that follow one another");
        SignRail x = new SignRail();
        x.stroke(1, 0, 0, 0, 4, true);
        x.stroke(3, 0, 0, 2, 0, true);
        x.stroke(4, 0, 0, 3, 0, true);
        x.stroke(5, 0, 0, 4, 0, true);
        x.space(1, 2, -1);
        x.space(2, 3, 0);
        x.space(3, 4, 2);
        x.space(4, 5, 3);
        Due.is("1 2 3 4 5", x.textWidth(012345, 5), 15 + 4);
        Due.is("5 4 3 2 1", x.textWidth(054321, 5), 15 + 4);
        x.space(1, 2, 3);
        Due.is("1 2 3 4 5 with the first two apart", x.textWidth(012345, 5), 15 + 8);
        x.space(4, 5, -1);
        Due.is("1 2 3 4 5 with the last two together", x.textWidth(012345, 5), 15 + 4);
        x.space(5, 1, 3);
        x.space(1, 3, 3);
        Due.is("no others count", x.textWidth(012345, 5), 15 + 4);
    }

    private static void textWidthLeast() {
        Due.sentence("8: the least width: glyphs 1 wide, spaces of -1");
        SignRail x = new SignRail();
        x.stroke(7, 2, 2, 2, 2, true);
        x.space(7, 7, -1);
        int text = 0;
        for (int many = 1; many <= 5; many++) {
            text = text * 8 + 7;
            Due.is(many + " glyphs", x.textWidth(text, many), 1);
        }
    }

    private static void textWidthMost() {
        Due.sentence("8: the greatest width: glyphs 5 wide, spaces of 3, wider than any plate");
        SignRail x = new SignRail();
        x.stroke(7, 0, 2, 4, 2, true);
        x.space(7, 7, 3);
        int text = 0;
        for (int many = 1; many <= 5; many++) {
            text = text * 8 + 7;
            Due.is(many + " glyphs", x.textWidth(text, many), 8 * many - 3);
        }
    }

    private static void textWidthCountsLeadingZeros() {
        Due.sentence("8: told by a number in base 8, the last glyph lowest, and by how many there are");
        SignRail x = new SignRail();
        x.stroke(1, 0, 0, 4, 0, true);
        x.space(0, 0, 0);
        x.space(0, 1, 3);
        x.space(1, 0, -1);
        Due.is("1", x.textWidth(1, 1), 5);
        Due.is("0 1", x.textWidth(1, 2), 10);
        Due.is("1 0", x.textWidth(8, 2), 6);
        Due.is("0 0 1", x.textWidth(1, 3), 12);
        Due.is("0 0 0 0 1", x.textWidth(1, 5), 16);
        Due.is("1 0 0 0 0", x.textWidth(4096, 5), 12);
    }

    private static void textWidthOfTheLowestAndHighest() {
        Due.sentence("8: a text is 0 or more, and less than 8 to the power of the number of its glyphs");
        SignRail x = new SignRail();
        x.stroke(7, 0, 0, 4, 0, true);
        for (int many = 1; many <= 5; many++) {
            Due.is("the lowest of " + many, x.textWidth(0, many), 3 * many - 1);
            Due.is("the highest of " + many, x.textWidth(LIMITS[many - 1] - 1, many), 6 * many - 1);
        }
    }

    private static void textWidthOfTooFewOrTooManyGlyphs() {
        Due.sentence("8: IllegalArgumentException if the text has not 1 to 5 glyphs");
        SignRail x = new SignRail();
        for (int bad : Wrong.LENGTHS) {
            Due.throwsArgument("of " + bad, () -> x.textWidth(0, bad));
            Due.throwsArgument("1 of " + bad, () -> x.textWidth(1, bad));
        }
    }

    private static void textWidthBelowZero() {
        Due.sentence("8: IllegalArgumentException if the text is below 0");
        SignRail x = new SignRail();
        for (int many = 1; many <= 5; many++) {
            int good = many;
            Due.throwsArgument("-1 of " + many, () -> x.textWidth(-1, good));
            Due.throwsArgument("the least int of " + many, () -> x.textWidth(Integer.MIN_VALUE, good));
        }
    }

    private static void textWidthNotLessThanThePower() {
        Due.sentence("8: IllegalArgumentException if the text is not less than 8 to the power of their number");
        SignRail x = new SignRail();
        for (int many = 1; many <= 5; many++) {
            int good = many;
            Due.throwsArgument("the first above, of " + many, () -> x.textWidth(LIMITS[good - 1], good));
            Due.throwsArgument("the greatest int of " + many, () -> x.textWidth(Integer.MAX_VALUE, good));
        }
    }

    private static void textWidthIsOfNow() {
        Due.sentence("8: how wide a text would be now");
        SignRail x = new SignRail();
        Due.is("empty", x.textWidth(0, 1), 2);
        x.stroke(0, 0, 0, 0, 0, true);
        Due.is("one column", x.textWidth(0, 1), 1);
        x.stroke(0, 0, 0, 4, 4, true);
        Due.is("all columns", x.textWidth(0, 1), 5);
        x.stroke(0, 0, 0, 4, 4, false);
        Due.is("empty again", x.textWidth(0, 1), 2);
        Due.is("nothing is cut", x.cost(), 0);
    }

    private static void refusedTextWidthChangesNothing() {
        Due.sentence("8: a call that throws changes nothing");
        Picture.unchangedBy("textWidth", x -> {
            Due.throwsArgument("many 0", () -> x.textWidth(0, 0));
            Due.throwsArgument("many 6", () -> x.textWidth(0, 6));
            Due.throwsArgument("text 8", () -> x.textWidth(8, 1));
            Due.throwsArgument("text -1", () -> x.textWidth(-1, 5));
        });
    }
}
