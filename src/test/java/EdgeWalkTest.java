/** Each sentence on walkers that names a boundary case: promises 15 to 17; 15 and 16 are asked the same. */
public final class EdgeWalkTest {
    private static final int[] LIMITS = {8, 64, 512, 4096, 32768};

    private interface Walk {
        int of(SignRail x, int from, int text, int many);
    }

    private final int promise;
    private final Walk walk;

    private EdgeWalkTest(int promise, Walk walk) {
        this.promise = promise;
        this.walk = walk;
    }

    public static void main(String[] args) {
        new EdgeWalkTest(15, (x, from, text, many) -> x.walk(from, text, many)).stepsOfAWalk();
        new EdgeWalkTest(16, (x, from, text, many) -> x.walkBySteps(from, text, many)).stepsOfAWalk();
        keptUntilAStroke();
        keptUntilALead();
        keptUntilAName();
        keptUntilACut();
        keptUntilARemove();
        keptUntilARemake();
        keptForEachGoalAndPlace();
        keptIfOtherThingsChange();
        theSameAsWalk();
        placeBehindNone();
        placeBehindThirty();
        placeBehindStepsOutOfRange();
        placeBehindFromTheFirstAndLastPlace();
        placeBehindFromNoPlace();
        placeBehindOfTheLowestAndHighestText();
        placeBehindOfNoText();
        placeBehindDecidesByTheFirstLine();
        placeBehindByUntakenExits();
        placeBehindBySigns();
        placeBehindStaysWhereItArrived();
        placeBehindStaysWhereItIsLost();
        placeBehindOnAnEndlessRound();
        refusedPlaceBehindChangesNothing();
        Due.end();
    }

    private void stepsOfAWalk() {
        fromTheFirstAndLastPlace();
        fromNoPlace();
        ofTheLowestAndHighestText();
        ofTooFewOrTooManyGlyphs();
        belowZero();
        notLessThanThePower();
        ofNoPlaceDecidesFirst();
        refusedChangesNothing();
        arrivedAtOnce();
        arrivedThoughASignLeadsOn();
        arrivedAtTheFirstPlaceOfThatName();
        neverAtANamelessPlace();
        firstOfTheSigns();
        signBeforeAnUntakenExit();
        signThatLeadsNowhere();
        signOfAnotherLength();
        signReadAsAnotherText();
        signOfATakenExit();
        untakenInOrder();
        untakenAfterASign();
        takenAtItsOwnPlaceAlone();
        takenByThisWalkAlone();
        lostWithoutExits();
        lostWhenAllAreTaken();
        lostOnAnEndlessRound();
        arrivedBehindTwentyEight();
    }

    private void sentence(String words) {
        Due.sentence(promise + ": " + words);
    }

    private void is(String call, SignRail x, int from, int text, int many, int steps) {
        Due.is(call, walk.of(x, from, text, many), steps);
    }

    /** Glyphs 1 to 3 are far apart; the text 1 is the name of place 7. */
    private static SignRail withGoal() {
        SignRail x = new SignRail();
        x.stroke(1, 0, 0, 4, 0, true);
        x.stroke(2, 0, 2, 4, 2, true);
        x.stroke(3, 0, 4, 4, 4, true);
        x.name(7, 1, 1);
        return x;
    }

    // ---- promises 15 and 16: arguments

    private void fromTheFirstAndLastPlace() {
        sentence("from: 0 to 7");
        SignRail x = withGoal();
        x.name(0, 2, 1);
        x.lead(0, 0, 7);
        x.lead(7, 3, 0);
        is("from 0", x, 0, 1, 1, 1);
        is("from 0, there", x, 0, 2, 1, 0);
        is("from 7", x, 7, 2, 1, 1);
        is("from 7, there", x, 7, 1, 1, 0);
    }

    private void fromNoPlace() {
        sentence("IndexOutOfBoundsException if there is no such place");
        SignRail x = withGoal();
        for (int bad : Wrong.PLACES) {
            Due.throwsIndex("from " + bad, () -> walk.of(x, bad, 1, 1));
        }
    }

    private void ofTheLowestAndHighestText() {
        sentence("a text has 1 to 5 glyphs, is 0 or more, and less than 8 to the power of their number");
        SignRail x = new SignRail();
        x.lead(3, 0, 4);
        for (int many = 1; many <= 5; many++) {
            x.name(4, 0, many);
            is("the lowest of " + many, x, 3, 0, many, 1);
            is("not the highest of " + many, x, 3, LIMITS[many - 1] - 1, many, -1);
            x.name(4, LIMITS[many - 1] - 1, many);
            is("the highest of " + many, x, 3, LIMITS[many - 1] - 1, many, 1);
            is("not the lowest of " + many, x, 3, 0, many, -1);
        }
    }

    private void ofTooFewOrTooManyGlyphs() {
        sentence("IllegalArgumentException if the text has not 1 to 5 glyphs");
        SignRail x = new SignRail();
        for (int bad : Wrong.LENGTHS) {
            Due.throwsArgument("of " + bad, () -> walk.of(x, 0, 0, bad));
            Due.throwsArgument("1 of " + bad, () -> walk.of(x, 7, 1, bad));
        }
    }

    private void belowZero() {
        sentence("IllegalArgumentException if the text is below 0");
        SignRail x = new SignRail();
        for (int many = 1; many <= 5; many++) {
            int good = many;
            Due.throwsArgument("-1 of " + many, () -> walk.of(x, 0, -1, good));
            Due.throwsArgument("the least int of " + many, () -> walk.of(x, 0, Integer.MIN_VALUE, good));
        }
    }

    private void notLessThanThePower() {
        sentence("IllegalArgumentException if the text is not less than 8 to the power of their number");
        SignRail x = new SignRail();
        for (int many = 1; many <= 5; many++) {
            int good = many;
            Due.throwsArgument("the first above, of " + many, () -> walk.of(x, 0, LIMITS[good - 1], good));
            Due.throwsArgument("the greatest int of " + many, () -> walk.of(x, 0, Integer.MAX_VALUE, good));
        }
    }

    private void ofNoPlaceDecidesFirst() {
        sentence("the first line of the throws clause that applies decides");
        SignRail x = new SignRail();
        Due.throwsIndex("from and many", () -> walk.of(x, 8, 0, 0));
        Due.throwsIndex("from and text", () -> walk.of(x, -1, 8, 1));
    }

    private void refusedChangesNothing() {
        sentence("a call that throws changes nothing");
        Picture.unchangedBy("a walk", x -> {
            Due.throwsIndex("from 8", () -> walk.of(x, 8, 7, 1));
            Due.throwsArgument("many 0", () -> walk.of(x, 0, 0, 0));
            Due.throwsArgument("text 8", () -> walk.of(x, 0, 8, 1));
        });
    }

    // ---- promises 15 and 16: arriving

    private void arrivedAtOnce() {
        sentence("at a place whose name is the goal it has arrived: behind no steps");
        SignRail x = withGoal();
        is("without exits", x, 7, 1, 1, 0);
        x.lead(7, 0, 2);
        is("with an exit", x, 7, 1, 1, 0);
    }

    private void arrivedThoughASignLeadsOn() {
        sentence("at a place whose name is the goal it has arrived: otherwise alone it follows signs");
        SignRail x = withGoal();
        x.lead(7, 0, 6);
        x.cut(7, 0, 1, 1, 0);
        x.lead(5, 0, 7);
        is("at once", x, 7, 1, 1, 0);
        is("on its way", x, 5, 1, 1, 1);
    }

    private void arrivedAtTheFirstPlaceOfThatName() {
        sentence("at a place whose name is the goal it has arrived: the first one of several");
        SignRail x = withGoal();
        x.name(3, 1, 1);
        x.lead(0, 0, 3);
        x.lead(3, 0, 7);
        is("two of that name", x, 0, 1, 1, 1);
        x.name(3, 1, 2);
        is("the same number of two glyphs", x, 0, 1, 1, 2);
        is("it is another name", x, 0, 1, 2, 1);
    }

    private void neverAtANamelessPlace() {
        sentence("a place can have a name: without one it is no goal");
        SignRail x = new SignRail();
        x.lead(0, 0, 1);
        for (int many = 1; many <= 5; many++) {
            is("0 of " + many, x, 0, 0, many, -1);
        }
    }

    // ---- promises 15 and 16: signs

    private void firstOfTheSigns() {
        sentence("the first exit that leads somewhere and has a sign that is read as the goal");
        SignRail x = withGoal();
        x.lead(0, 1, 6);
        x.lead(0, 2, 7);
        x.lead(0, 3, 7);
        x.cut(0, 2, 1, 1, 0);
        x.cut(0, 3, 1, 1, 0);
        is("exit 2 before 3", x, 0, 1, 1, 1);
        x.lead(0, 2, 5);
        is("exit 2 alone", x, 0, 1, 1, -1);
        x.lead(5, 0, 7);
        is("exit 2 and then on", x, 0, 1, 1, 2);
    }

    private void signBeforeAnUntakenExit() {
        sentence("if there is none, the first exit that it has not taken yet: not before");
        SignRail x = withGoal();
        x.lead(0, 0, 6);
        x.lead(0, 3, 7);
        is("without a sign", x, 0, 1, 1, -1);
        x.cut(0, 3, 1, 1, 0);
        is("with a sign at the last exit", x, 0, 1, 1, 1);
    }

    private void signThatLeadsNowhere() {
        sentence("exit that leads somewhere and has a sign: one that leads nowhere is none");
        SignRail x = withGoal();
        x.cut(0, 0, 1, 1, 0);
        is("it alone", x, 0, 1, 1, -1);
        x.cut(0, 2, 1, 1, 0);
        x.lead(0, 1, 6);
        x.lead(0, 2, 7);
        is("before another sign", x, 0, 1, 1, 1);
        x.remove(0, 2);
        x.lead(0, 1, 7);
        is("before an untaken exit", x, 0, 1, 1, 1);
    }

    private void signOfAnotherLength() {
        sentence("read as the goal, the same glyphs and as many");
        SignRail x = withGoal();
        x.name(7, 0, 3);
        x.lead(0, 0, 6);
        x.lead(0, 1, 7);
        for (int many = 1; many <= 5; many++) {
            x.cut(0, 1, 0, many, 0);
            is("the same number, " + many + " glyphs", x, 0, 0, 3, many == 3 ? 1 : -1);
        }
    }

    private void signReadAsAnotherText() {
        sentence("a sign that is read as the goal, whatever was cut");
        SignRail x = withGoal();
        x.lead(0, 0, 6);
        x.lead(0, 1, 7);
        x.cut(0, 1, 1, 1, 5);
        is("from 5", x, 0, 1, 1, 1);
        x.cut(0, 1, 1, 1, 6);
        is("from 6 it is read as 0", x, 0, 1, 1, -1);
        x.name(7, 0, 1);
        is("the goal 0", x, 0, 0, 1, 1);
    }

    private void signOfATakenExit() {
        sentence("the first exit that has a sign that is read as the goal, taken or not");
        SignRail x = withGoal();
        x.lead(0, 0, 1);
        x.lead(0, 1, 7);
        x.lead(1, 0, 0);
        x.lead(1, 1, 7);
        x.cut(0, 0, 1, 1, 0);
        // 0, 1, 0, 1 by the sign again, 7; the untaken exit 1 of 0 is never taken.
        is("twice by the sign", x, 0, 1, 1, 4);
        x.remove(0, 0);
        is("once without it", x, 0, 1, 1, 3);
    }

    // ---- promises 15 and 16: exits that were not taken yet

    private void untakenInOrder() {
        sentence("the first exit that leads somewhere and that it has not taken yet: 0 to 3");
        SignRail x = withGoal();
        for (int exit = 0; exit < 4; exit++) {
            for (int other = 0; other < 4; other++) {
                x.lead(0, other, other < exit ? 0 : other == exit ? 7 : 6);
            }
            is("the goal at exit " + exit, x, 0, 1, 1, exit + 1);
        }
        x.lead(0, 0, SignRail.NONE);
        x.lead(0, 2, SignRail.NONE);
        is("two of them lead nowhere", x, 0, 1, 1, 2);
    }

    private void untakenAfterASign() {
        sentence("that it has not taken yet: an exit that it took by its sign is taken");
        SignRail x = withGoal();
        x.lead(0, 0, 1);
        x.cut(0, 0, 1, 1, 0);
        x.lead(1, 0, 2);
        x.cut(1, 0, 1, 1, 0);
        x.lead(2, 0, 1);
        x.lead(2, 1, 0);
        x.lead(2, 2, 7);
        // 0 1 2, 1 2, 0 1 2, 7
        is("signs at 0 and 1 alone", x, 0, 1, 1, 8);
        x.cut(2, 1, 1, 1, 0);
        is("signs all round", x, 0, 1, 1, -1);
    }

    private void takenAtItsOwnPlaceAlone() {
        sentence("that it has not taken yet: the same exit of another place is another one");
        SignRail x = withGoal();
        for (int place = 0; place < 7; place++) {
            x.lead(place, 0, place + 1);
        }
        is("each by its exit 0", x, 0, 1, 1, 7);
        SignRail y = withGoal();
        for (int place = 0; place < 7; place++) {
            y.lead(place, 3, place + 1);
        }
        is("each by its exit 3", y, 0, 1, 1, 7);
    }

    private void takenByThisWalkAlone() {
        sentence("that it has not taken yet: each walker begins with none");
        SignRail x = withGoal();
        x.lead(0, 3, 7);
        is("first", x, 0, 1, 1, 1);
        is("second", x, 0, 1, 1, 1);
        is("another goal", x, 0, 2, 1, -1);
        is("third", x, 0, 1, 1, 1);
    }

    // ---- promises 15 and 16: lost

    private void lostWithoutExits() {
        sentence("NONE if it is lost: there is no exit");
        SignRail x = withGoal();
        is("none leads somewhere", x, 0, 1, 1, SignRail.NONE);
        x.cut(0, 0, 1, 1, 0);
        is("nor one with a sign", x, 0, 1, 1, SignRail.NONE);
        x.lead(0, 3, 6);
        is("none behind a step", x, 0, 1, 1, SignRail.NONE);
    }

    private void lostWhenAllAreTaken() {
        sentence("NONE if it is lost: all exits are taken");
        SignRail x = withGoal();
        x.lead(0, 0, 0);
        is("one, to itself", x, 0, 1, 1, SignRail.NONE);
        x.lead(0, 1, 0);
        x.lead(0, 2, 0);
        x.lead(0, 3, 0);
        is("four, to itself", x, 0, 1, 1, SignRail.NONE);
        x.lead(0, 3, 7);
        is("the fourth to the goal", x, 0, 1, 1, 4);
    }

    private void lostOnAnEndlessRound() {
        sentence("behind 30 steps without having arrived it is lost");
        SignRail x = withGoal();
        x.lead(0, 0, 0);
        x.cut(0, 0, 1, 1, 0);
        x.lead(0, 1, 7);
        is("round by a sign to its own place", x, 0, 1, 1, SignRail.NONE);
        for (int place = 0; place < 7; place++) {
            x.lead(place, 0, (place + 1) % 7);
            x.cut(place, 0, 1, 1, 0);
        }
        is("round by seven places", x, 0, 1, 1, SignRail.NONE);
    }

    /** Seven places that are not the goal, each left by its four exits: no walker arrives behind more steps. */
    private void arrivedBehindTwentyEight() {
        sentence("each exit that it takes is a step: 28 of them, below the limit of 30");
        SignRail x = withGoal();
        for (int way = 0; way < 28; way++) {
            x.lead(way / 4, way % 4, (way / 4 + 1) % 7);
        }
        is("all of them round", x, 0, 1, 1, SignRail.NONE);
        x.lead(6, 3, 7);
        is("the last one to the goal", x, 0, 1, 1, 28);
        is("begun one later", x, 1, 1, 1, 27);
    }

    // ---- promise 15: kept

    /** Asks the goal 1 from place 0 twice, so that a kept answer is used. */
    private static void isKept(SignRail x, int steps) {
        Due.is("asked", x.walk(0, 1, 1), steps);
        Due.is("asked again", x.walk(0, 1, 1), steps);
    }

    private static SignRail withTwoWays() {
        SignRail x = withGoal();
        x.lead(0, 0, 1);
        x.lead(1, 0, 7);
        x.lead(0, 3, 7);
        return x;
    }

    private static void keptUntilAStroke() {
        Due.sentence("15: as it is kept until something changes: by stroke");
        SignRail x = withTwoWays();
        x.cut(0, 3, 1, 1, 0);
        isKept(x, 1);
        x.stroke(1, 0, 0, 4, 0, false);
        isKept(x, 2);
        x.stroke(1, 0, 0, 4, 0, true);
        isKept(x, 1);
    }

    private static void keptUntilALead() {
        Due.sentence("15: as it is kept until something changes: by lead");
        SignRail x = withTwoWays();
        isKept(x, 2);
        x.lead(0, 0, SignRail.NONE);
        isKept(x, 1);
        x.lead(0, 3, SignRail.NONE);
        isKept(x, SignRail.NONE);
        x.lead(0, 3, 7);
        isKept(x, 1);
    }

    private static void keptUntilAName() {
        Due.sentence("15: as it is kept until something changes: by name");
        SignRail x = withTwoWays();
        isKept(x, 2);
        x.name(1, 1, 1);
        isKept(x, 1);
        x.name(0, 1, 1);
        isKept(x, 0);
        x.name(0, 1, 2);
        x.name(1, 1, 2);
        x.name(7, 1, 2);
        isKept(x, SignRail.NONE);
    }

    private static void keptUntilACut() {
        Due.sentence("15: as it is kept until something changes: by cut");
        SignRail x = withTwoWays();
        isKept(x, 2);
        x.cut(0, 3, 1, 1, 0);
        isKept(x, 1);
        x.cut(0, 3, 2, 1, 0);
        isKept(x, 2);
    }

    private static void keptUntilARemove() {
        Due.sentence("15: as it is kept until something changes: by remove");
        SignRail x = withTwoWays();
        x.cut(0, 3, 1, 1, 0);
        isKept(x, 1);
        x.remove(0, 3);
        isKept(x, 2);
    }

    private static void keptUntilARemake() {
        Due.sentence("15: as it is kept until something changes: by remake");
        SignRail x = withTwoWays();
        x.stroke(1, 0, 0, 4, 0, false);
        x.cut(0, 3, 1, 1, 0);
        x.stroke(1, 0, 0, 4, 0, true);
        isKept(x, 2);
        x.remake();
        isKept(x, 1);
    }

    private static void keptForEachGoalAndPlace() {
        Due.sentence("15: as it is kept: for the place at which it begins and its goal");
        SignRail x = withTwoWays();
        x.name(1, 1, 2);
        for (int round = 0; round < 3; round++) {
            Due.is("0 to 1", x.walk(0, 1, 1), 2);
            Due.is("1 to 1", x.walk(1, 1, 1), 1);
            Due.is("7 to 1", x.walk(7, 1, 1), 0);
            Due.is("0 to 0 1", x.walk(0, 1, 2), 1);
            Due.is("1 to 0 1", x.walk(1, 1, 2), 0);
            Due.is("7 to 0 1", x.walk(7, 1, 2), SignRail.NONE);
            Due.is("0 to 0 0 1", x.walk(0, 1, 3), SignRail.NONE);
        }
    }

    private static void keptIfOtherThingsChange() {
        Due.sentence("15: as it is kept: by calls that change no walk");
        SignRail x = withTwoWays();
        isKept(x, 2);
        x.space(1, 1, 3);
        x.remove(0, 3);
        x.remake();
        x.stroke(5, 0, 0, 0, 0, true);
        x.placeBehind(3, 1, 1, 30);
        x.walkBySteps(0, 2, 1);
        isKept(x, 2);
        Due.throwsIndex("from 8", () -> x.walk(8, 2, 1));
        Due.throwsArgument("text 8", () -> x.walk(0, 8, 1));
        isKept(x, 2);
    }

    // ---- promise 16

    private static void theSameAsWalk() {
        Due.sentence("16: returns the same, before and behind each change");
        SignRail x = withTwoWays();
        x.walk(0, 1, 1);
        Due.is("at first", x.walkBySteps(0, 1, 1), 2);
        x.cut(0, 3, 1, 1, 0);
        Due.is("with a sign", x.walkBySteps(0, 1, 1), 1);
        Due.is("walk", x.walk(0, 1, 1), 1);
        x.stroke(1, 0, 0, 4, 0, false);
        Due.is("with an old one", x.walkBySteps(0, 1, 1), 2);
        x.remake();
        Due.is("read as 0 now", x.walkBySteps(0, 1, 1), 2);
        x.stroke(0, 0, 4, 4, 4, true);
        Due.is("read as 1 again", x.walkBySteps(0, 1, 1), 1);
        x.remove(0, 3);
        Due.is("without a sign", x.walkBySteps(0, 1, 1), 2);
        x.lead(0, 3, SignRail.NONE);
        x.lead(0, 0, SignRail.NONE);
        Due.is("without exits", x.walkBySteps(0, 1, 1), SignRail.NONE);
        x.name(0, 1, 1);
        Due.is("there", x.walkBySteps(0, 1, 1), 0);
    }

    // ---- promise 17

    private static SignRail round() {
        SignRail x = withGoal();
        for (int place = 0; place < 7; place++) {
            x.lead(place, 2, (place + 1) % 7);
            x.cut(place, 2, 1, 1, 0);
        }
        return x;
    }

    private static void placeBehindNone() {
        Due.sentence("17: steps: 0 to 30: 0");
        SignRail x = round();
        for (int place = 0; place < 8; place++) {
            Due.is("from " + place, x.placeBehind(place, 1, 1, 0), place);
        }
    }

    private static void placeBehindThirty() {
        Due.sentence("17: steps: 0 to 30: 30");
        SignRail x = round();
        for (int place = 0; place < 7; place++) {
            Due.is("29 from " + place, x.placeBehind(place, 1, 1, 29), (place + 29) % 7);
            Due.is("30 from " + place, x.placeBehind(place, 1, 1, 30), (place + 30) % 7);
        }
    }

    private static void placeBehindStepsOutOfRange() {
        Due.sentence("17: IllegalArgumentException if steps is out of range");
        SignRail x = round();
        for (int bad : Wrong.STEPS) {
            Due.throwsArgument("steps " + bad, () -> x.placeBehind(0, 1, 1, bad));
            Due.throwsArgument("steps " + bad + " where it has arrived", () -> x.placeBehind(7, 1, 1, bad));
        }
    }

    private static void placeBehindFromTheFirstAndLastPlace() {
        Due.sentence("17: from: 0 to 7");
        SignRail x = withGoal();
        x.lead(0, 0, 7);
        x.lead(7, 3, 0);
        Due.is("0", x.placeBehind(0, 1, 1, 1), 7);
        Due.is("7", x.placeBehind(7, 2, 1, 1), 0);
        Due.is("7 where it has arrived", x.placeBehind(7, 1, 1, 1), 7);
    }

    private static void placeBehindFromNoPlace() {
        Due.sentence("17: IndexOutOfBoundsException if there is no such place");
        SignRail x = round();
        for (int bad : Wrong.PLACES) {
            Due.throwsIndex("from " + bad, () -> x.placeBehind(bad, 1, 1, 0));
            Due.throwsIndex("from " + bad, () -> x.placeBehind(bad, 1, 1, 30));
        }
    }

    private static void placeBehindOfTheLowestAndHighestText() {
        Due.sentence("17: a text has 1 to 5 glyphs, is 0 or more, and less than 8 to the power of their number");
        SignRail x = new SignRail();
        x.lead(3, 0, 4);
        x.lead(4, 0, 5);
        for (int many = 1; many <= 5; many++) {
            x.name(4, 0, many);
            Due.is("the lowest of " + many, x.placeBehind(3, 0, many, 2), 4);
            Due.is("not the highest of " + many, x.placeBehind(3, LIMITS[many - 1] - 1, many, 2), 5);
            x.name(4, LIMITS[many - 1] - 1, many);
            Due.is("the highest of " + many, x.placeBehind(3, LIMITS[many - 1] - 1, many, 2), 4);
            Due.is("not the lowest of " + many, x.placeBehind(3, 0, many, 2), 5);
        }
    }

    private static void placeBehindOfNoText() {
        Due.sentence("17: IllegalArgumentException if text or many is out of range");
        SignRail x = round();
        for (int bad : Wrong.LENGTHS) {
            Due.throwsArgument("of " + bad, () -> x.placeBehind(0, 0, bad, 0));
        }
        for (int many = 1; many <= 5; many++) {
            int good = many;
            Due.throwsArgument("-1 of " + many, () -> x.placeBehind(0, -1, good, 0));
            Due.throwsArgument("the first above, of " + many, () -> x.placeBehind(0, LIMITS[good - 1], good, 30));
        }
        for (int[] bad : Wrong.TEXTS) {
            Due.throwsArgument("text " + bad[0] + ", " + bad[1], () -> x.placeBehind(0, bad[0], bad[1], 1));
        }
    }

    private static void placeBehindDecidesByTheFirstLine() {
        Due.sentence("17: the first line of the throws clause that applies decides");
        SignRail x = round();
        Due.throwsIndex("from and steps", () -> x.placeBehind(8, 1, 1, 31));
        Due.throwsIndex("from and many", () -> x.placeBehind(-1, 1, 0, 0));
        Due.throwsIndex("from and text", () -> x.placeBehind(8, 8, 1, -1));
    }

    private static void placesAre(SignRail x, int from, int... places) {
        for (int steps = 0; steps < places.length; steps++) {
            Due.is("behind " + steps, x.placeBehind(from, 1, 1, steps), places[steps]);
        }
        Due.is("behind 30", x.placeBehind(from, 1, 1, 30), places[places.length - 1]);
    }

    private static void placeBehindByUntakenExits() {
        Due.sentence("17: the first exit that leads somewhere and that it has not taken yet, up to the last one");
        SignRail x = withGoal();
        x.lead(5, 0, 6);
        x.lead(5, 2, 5);
        x.lead(5, 3, 4);
        x.lead(6, 1, 5);
        x.lead(6, 3, 5);
        x.lead(4, 0, 6);
        placesAre(x, 5, 5, 6, 5, 5, 4, 6, 5);
        x.lead(5, 1, 7);
        placesAre(x, 5, 5, 6, 5, 7);
    }

    private static void placeBehindBySigns() {
        Due.sentence("17: the first exit that leads somewhere and has a sign that is read as the goal, taken or not");
        SignRail x = withGoal();
        x.lead(5, 0, 4);
        x.lead(5, 1, 6);
        x.lead(5, 3, 7);
        x.cut(5, 1, 1, 1, 0);
        x.cut(5, 2, 1, 1, 0);
        x.cut(5, 3, 1, 1, 0);
        x.lead(6, 0, 5);
        x.lead(6, 2, 5);
        placesAre(x, 5, 5, 6, 5, 6, 5, 6);
        x.remove(5, 1);
        placesAre(x, 5, 5, 7);
        x.remove(5, 3);
        placesAre(x, 5, 5, 4);
    }

    private static void placeBehindStaysWhereItArrived() {
        Due.sentence("17: where it stays, if it has arrived by then");
        SignRail x = withGoal();
        x.lead(0, 0, 1);
        x.lead(1, 0, 7);
        x.lead(7, 0, 6);
        x.cut(7, 0, 1, 1, 0);
        Due.is("behind 1", x.placeBehind(0, 1, 1, 1), 1);
        for (int steps = 2; steps <= 30; steps++) {
            Due.is("behind " + steps, x.placeBehind(0, 1, 1, steps), 7);
        }
        Due.is("where it began", x.placeBehind(7, 1, 1, 30), 7);
    }

    private static void placeBehindStaysWhereItIsLost() {
        Due.sentence("17: where it stays, if it is lost by then");
        SignRail x = withGoal();
        x.lead(0, 0, 1);
        x.lead(1, 0, 0);
        Due.is("behind 1", x.placeBehind(0, 1, 1, 1), 1);
        for (int steps = 2; steps <= 30; steps++) {
            Due.is("behind " + steps, x.placeBehind(0, 1, 1, steps), 0);
        }
        Due.is("where it began", x.placeBehind(5, 1, 1, 30), 5);
    }

    private static void placeBehindOnAnEndlessRound() {
        Due.sentence("17: returns where a walker is behind some steps: each of 30 on a round that has no end");
        SignRail x = round();
        for (int steps = 0; steps <= 30; steps++) {
            Due.is("behind " + steps, x.placeBehind(3, 1, 1, steps), (3 + steps) % 7);
        }
    }

    private static void refusedPlaceBehindChangesNothing() {
        Due.sentence("17: a call that throws changes nothing");
        Picture.unchangedBy("placeBehind", x -> {
            Due.throwsIndex("from 8", () -> x.placeBehind(8, 7, 1, 0));
            Due.throwsArgument("many 0", () -> x.placeBehind(0, 0, 0, 0));
            Due.throwsArgument("text 8", () -> x.placeBehind(0, 8, 1, 0));
            Due.throwsArgument("steps 31", () -> x.placeBehind(0, 7, 1, 31));
        });
    }
}
