/** Promises 6, 7 and 15 to 17: exits, names and walkers. */
public final class WalkTest {
    public static void main(String[] args) {
        lead();
        leadRefuses();
        name();
        nameRefuses();
        arrivesAtOnce();
        takesUntakenExitsInOrder();
        followsSigns();
        followsTakenExitsBySigns();
        signsMustBeReadAsTheGoal();
        signsAtExitsThatLeadNowhere();
        signsAreReadFromAfar();
        arrivesBehindTwentyEightSteps();
        goesRoundForEver();
        keptWalksAreForgotten();
        remakeChangesWalks();
        keptWalksAreByGoalAndPlace();
        walkersRefuse();
        Due.end();
    }

    private static void walks(SignRail x, int from, int text, int many, int steps) {
        String call = "(" + from + ", " + text + ", " + many + ")";
        Due.is("walk" + call, x.walk(from, text, many), steps);
        Due.is("walkBySteps" + call, x.walkBySteps(from, text, many), steps);
        Due.is("walk again" + call, x.walk(from, text, many), steps);
    }

    private static void behind(SignRail x, int from, int text, int many, int... places) {
        for (int steps = 0; steps < places.length; steps++) {
            Due.is("placeBehind(" + from + ", " + text + ", " + many + ", " + steps + ")",
                    x.placeBehind(from, text, many, steps), places[steps]);
        }
        Due.is("placeBehind 30", x.placeBehind(from, text, many, 30), places[places.length - 1]);
    }

    private static void lead() {
        SignRail x = new SignRail();
        Due.is("nowhere at first", x.lead(7, 3, 7), SignRail.NONE);
        Due.is("to itself", x.lead(7, 3, 0), 7);
        Due.is("to the first", x.lead(7, 3, SignRail.NONE), 0);
        Due.is("nowhere again", x.lead(7, 3, 5), SignRail.NONE);
        Due.is("another exit", x.lead(7, 2, 4), SignRail.NONE);
        Due.is("another place", x.lead(6, 3, 4), SignRail.NONE);
        Due.is("still", x.lead(7, 3, 5), 5);
    }

    private static void leadRefuses() {
        SignRail x = new SignRail();
        x.lead(2, 1, 6);
        for (int bad : Wrong.PLACES) {
            Due.throwsIndex("lead place " + bad, () -> x.lead(bad, 0, 0));
            if (bad != SignRail.NONE) {
                Due.throwsIndex("lead to " + bad, () -> x.lead(2, 1, bad));
            }
        }
        for (int bad : Wrong.EXITS) {
            Due.throwsIndex("lead exit " + bad, () -> x.lead(0, bad, 0));
        }
        Due.throwsIndex("lead to -2", () -> x.lead(2, 1, -2));
        Due.is("unchanged", x.lead(2, 1, 6), 6);
    }

    private static void name() {
        SignRail x = new SignRail();
        x.name(0, 0, 1);
        walks(x, 0, 0, 1, 0);
        walks(x, 0, 0, 2, SignRail.NONE);
        walks(x, 0, 1, 1, SignRail.NONE);
        walks(x, 1, 0, 1, SignRail.NONE);
        x.name(0, 0, 5);
        walks(x, 0, 0, 5, 0);
        walks(x, 0, 0, 1, SignRail.NONE);
        x.name(7, 32767, 5);
        walks(x, 7, 32767, 5, 0);
        x.name(1, 0, 5);
        walks(x, 0, 0, 5, 0);
        walks(x, 1, 0, 5, 0);
    }

    private static void nameRefuses() {
        SignRail x = new SignRail();
        x.name(3, 7, 2);
        for (int bad : Wrong.PLACES) {
            Due.throwsIndex("name place " + bad, () -> x.name(bad, 0, 1));
            Due.throwsIndex("name place " + bad + " first", () -> x.name(bad, -1, 0));
        }
        for (int[] bad : Wrong.TEXTS) {
            Due.throwsArgument("name " + bad[0] + ", " + bad[1], () -> x.name(3, bad[0], bad[1]));
        }
        walks(x, 3, 7, 2, 0);
    }

    private static void arrivesAtOnce() {
        SignRail x = new SignRail();
        x.name(4, 5, 1);
        x.lead(4, 0, 3);
        walks(x, 4, 5, 1, 0);
        behind(x, 4, 5, 1, 4, 4, 4);
    }

    private static void takesUntakenExitsInOrder() {
        SignRail x = new SignRail();
        x.name(7, 1, 1);
        x.lead(0, 1, 1);
        x.lead(0, 2, 2);
        x.lead(0, 3, 7);
        x.lead(1, 3, 0);
        x.lead(2, 0, 2);
        x.lead(2, 1, 0);
        walks(x, 0, 1, 1, 6);
        behind(x, 0, 1, 1, 0, 1, 0, 2, 2, 0, 7, 7);
        x.lead(0, 3, SignRail.NONE);
        walks(x, 0, 1, 1, SignRail.NONE);
        behind(x, 0, 1, 1, 0, 1, 0, 2, 2, 0, 0);
        // Begun elsewhere it has not taken the others yet, and a new walk has taken none.
        walks(x, 2, 1, 1, SignRail.NONE);
        behind(x, 2, 1, 1, 2, 2, 0, 1, 0, 2, 2);
        behind(x, 3, 1, 1, 3, 3);
    }

    /** Glyphs 1 to 3 differ from the others and from each other by far. */
    private static SignRail withGlyphs() {
        SignRail x = new SignRail();
        x.stroke(1, 0, 0, 4, 0, true);
        x.stroke(2, 0, 2, 4, 2, true);
        x.stroke(3, 0, 4, 4, 4, true);
        return x;
    }

    private static void followsSigns() {
        SignRail x = withGlyphs();
        x.lead(0, 0, 1);
        x.lead(0, 1, 2);
        x.lead(0, 2, 3);
        x.lead(0, 3, 4);
        x.name(4, 012, 2);
        x.cut(0, 3, 012, 2, 0);
        walks(x, 0, 012, 2, 1);
        x.cut(0, 2, 012, 2, 0);
        walks(x, 0, 012, 2, SignRail.NONE);
        behind(x, 0, 012, 2, 0, 3, 3);
        x.cut(0, 2, 021, 2, 0);
        walks(x, 0, 012, 2, 1);
        // Another goal does not follow that sign.
        x.name(4, 3, 1);
        walks(x, 0, 3, 1, SignRail.NONE);
        behind(x, 0, 3, 1, 0, 1, 1);
    }

    private static void followsTakenExitsBySigns() {
        SignRail x = withGlyphs();
        x.lead(0, 1, 1);
        x.lead(0, 2, 5);
        x.lead(1, 0, 0);
        x.lead(1, 1, 0);
        x.name(5, 3, 1);
        walks(x, 0, 3, 1, 3);
        x.cut(0, 1, 3, 1, 0);
        // The sign is followed again; then place 1 has no exit that is not taken.
        walks(x, 0, 3, 1, SignRail.NONE);
        behind(x, 0, 3, 1, 0, 1, 0, 1, 0, 1, 1);
        x.lead(1, 2, 5);
        walks(x, 0, 3, 1, 6);
        // An exit that was taken by its sign is taken: without the sign's help it is not taken again.
        SignRail y = withGlyphs();
        y.lead(0, 0, 0);
        y.lead(0, 1, 1);
        y.cut(0, 1, 3, 1, 0);
        y.lead(1, 0, 0);
        behind(y, 0, 3, 1, 0, 1, 0, 1, 1);
    }

    private static void signsMustBeReadAsTheGoal() {
        SignRail x = withGlyphs();
        x.lead(0, 0, 1);
        x.lead(0, 1, 2);
        x.name(2, 1, 2);
        x.cut(0, 1, 1, 1, 0);
        Due.is("the same number, fewer glyphs", x.walk(0, 1, 2), SignRail.NONE);
        x.cut(0, 1, 1, 3, 0);
        Due.is("the same number, more glyphs", x.walk(0, 1, 2), SignRail.NONE);
        x.cut(0, 1, 1, 2, 0);
        walks(x, 0, 1, 2, 1);
        // Read as the goal, though another text was cut.
        x.cut(0, 1, 041, 2, 0);
        Due.is("4 is read as 0", x.read(0, 1), 1);
        walks(x, 0, 1, 2, 1);
        walks(x, 0, 041, 2, SignRail.NONE);
    }

    private static void signsAtExitsThatLeadNowhere() {
        SignRail x = withGlyphs();
        x.lead(0, 3, 6);
        x.name(6, 2, 1);
        x.cut(0, 0, 2, 1, 0);
        walks(x, 0, 2, 1, 1);
        x.lead(0, 2, 5);
        walks(x, 0, 2, 1, SignRail.NONE);
        x.cut(0, 3, 2, 1, 0);
        walks(x, 0, 2, 1, 1);
    }

    private static void signsAreReadFromAfar() {
        SignRail x = withGlyphs();
        x.lead(0, 0, 1);
        x.lead(0, 1, 2);
        x.name(2, 1, 1);
        x.cut(0, 1, 1, 1, 5);
        walks(x, 0, 1, 1, 1);
        x.cut(0, 1, 1, 1, 6);
        walks(x, 0, 1, 1, SignRail.NONE);
        walks(x, 0, 0, 1, SignRail.NONE);
        x.name(2, 0, 1);
        walks(x, 0, 0, 1, 1);
    }

    /**
     * No walker arrives behind 29 or 30 steps: it leaves each of the seven places that are not its goal
     * four times at most, as a place that is left by a sign leads to one that is not, or round for ever.
     */
    private static void arrivesBehindTwentyEightSteps() {
        SignRail x = new SignRail();
        for (int place = 0; place < 7; place++) {
            for (int exit = 0; exit < 4; exit++) {
                x.lead(place, exit, (place + 1) % 7);
            }
        }
        x.name(7, 1, 1);
        walks(x, 0, 1, 1, SignRail.NONE);
        Due.is("four rounds, then lost", x.placeBehind(0, 1, 1, 30), 0);
        Due.is("in the last round", x.placeBehind(0, 1, 1, 27), 6);
        x.lead(6, 3, 7);
        walks(x, 0, 1, 1, 28);
        walks(x, 6, 1, 1, 22);
        Due.is("behind 27", x.placeBehind(0, 1, 1, 27), 6);
        Due.is("behind 28", x.placeBehind(0, 1, 1, 28), 7);
        Due.is("behind 30", x.placeBehind(0, 1, 1, 30), 7);
    }

    private static void goesRoundForEver() {
        SignRail x = withGlyphs();
        x.lead(4, 3, 6);
        x.lead(6, 2, 4);
        x.lead(4, 0, 1);
        x.name(1, 3, 1);
        x.cut(4, 3, 3, 1, 0);
        x.cut(6, 2, 3, 1, 0);
        walks(x, 4, 3, 1, SignRail.NONE);
        for (int steps = 0; steps <= 30; steps++) {
            Due.is("round, behind " + steps, x.placeBehind(4, 3, 1, steps), steps % 2 == 0 ? 4 : 6);
            Due.is("round from 6, behind " + steps, x.placeBehind(6, 3, 1, steps), steps % 2 == 0 ? 6 : 4);
        }
    }

    private static void keptWalksAreForgotten() {
        SignRail x = withGlyphs();
        walks(x, 0, 1, 1, SignRail.NONE);
        x.name(2, 1, 1);
        walks(x, 0, 1, 1, SignRail.NONE);
        x.lead(0, 0, 1);
        x.lead(0, 1, 2);
        walks(x, 0, 1, 1, SignRail.NONE);
        x.lead(1, 0, 2);
        walks(x, 0, 1, 1, 2);
        x.cut(0, 1, 1, 1, 0);
        walks(x, 0, 1, 1, 1);
        x.stroke(1, 0, 0, 4, 0, false);
        walks(x, 0, 1, 1, 2);
        x.stroke(4, 0, 0, 4, 0, true);
        walks(x, 0, 4, 1, SignRail.NONE);
        x.name(2, 4, 1);
        walks(x, 0, 4, 1, 1);
        x.remove(0, 1);
        walks(x, 0, 4, 1, 2);
        x.name(2, 0, 1);
        walks(x, 0, 4, 1, SignRail.NONE);
        walks(x, 0, 0, 1, 2);
        x.cut(0, 1, 1, 1, 0);
        walks(x, 0, 0, 1, 1);
        x.stroke(1, 0, 0, 4, 0, true);
        walks(x, 0, 0, 1, 1);
        x.stroke(4, 0, 0, 4, 0, false);
        walks(x, 0, 1, 1, SignRail.NONE);
        Due.is("remade", x.remake(), 1);
        walks(x, 0, 0, 1, 2);
        x.name(2, 1, 1);
        walks(x, 0, 1, 1, 1);
    }

    private static void remakeChangesWalks() {
        SignRail x = withGlyphs();
        x.lead(0, 0, 1);
        x.lead(0, 1, 2);
        x.lead(1, 0, 2);
        x.name(2, 5, 1);
        x.cut(0, 1, 5, 1, 0);
        x.stroke(5, 4, 1, 4, 4, true);
        walks(x, 0, 5, 1, 2);
        x.remake();
        walks(x, 0, 5, 1, 1);
    }

    private static void keptWalksAreByGoalAndPlace() {
        SignRail x = new SignRail();
        for (int place = 0; place < 7; place++) {
            x.lead(place, place % 4, place + 1);
        }
        x.name(7, 7, 1);
        x.name(5, 7, 2);
        for (int round = 0; round < 2; round++) {
            for (int from = 0; from < 8; from++) {
                walks(x, from, 7, 1, 7 - from);
                walks(x, from, 7, 2, from <= 5 ? 5 - from : SignRail.NONE);
            }
            for (int from = 0; from < 8; from++) {
                Due.is("all from one goal", x.walk(from, 7, 1), 7 - from);
            }
        }
        Due.throwsIndex("walk that throws", () -> x.walk(8, 7, 2));
        Due.throwsArgument("walk that throws", () -> x.walk(0, 8, 1));
        walks(x, 0, 7, 1, 7);
    }

    private static void walkersRefuse() {
        SignRail x = new SignRail();
        for (int bad : Wrong.PLACES) {
            Due.throwsIndex("walk from " + bad, () -> x.walk(bad, 0, 1));
            Due.throwsIndex("walkBySteps from " + bad, () -> x.walkBySteps(bad, 0, 1));
            Due.throwsIndex("placeBehind from " + bad, () -> x.placeBehind(bad, 0, 1, 0));
            Due.throwsIndex("walk from " + bad + " first", () -> x.walk(bad, 8, 1));
            Due.throwsIndex("walkBySteps from " + bad + " first", () -> x.walkBySteps(bad, 8, 1));
            Due.throwsIndex("placeBehind from " + bad + " first", () -> x.placeBehind(bad, 0, 0, 31));
        }
        for (int[] bad : Wrong.TEXTS) {
            String text = bad[0] + ", " + bad[1];
            Due.throwsArgument("walk to " + text, () -> x.walk(0, bad[0], bad[1]));
            Due.throwsArgument("walkBySteps to " + text, () -> x.walkBySteps(0, bad[0], bad[1]));
            Due.throwsArgument("placeBehind to " + text, () -> x.placeBehind(0, bad[0], bad[1], 0));
        }
        for (int bad : Wrong.STEPS) {
            Due.throwsArgument("placeBehind " + bad, () -> x.placeBehind(0, 0, 1, bad));
        }
        Due.is("placeBehind 0", x.placeBehind(0, 0, 1, 0), 0);
    }
}
