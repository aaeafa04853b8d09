/** The example of README.md, call by call: who changes one changes the other. */
public final class ExampleTest {
    public static void main(String[] args) {
        Due.sentence("README.md, Use");
        SignRail rail = new SignRail();
        glyphs(rail);
        station(rail);
        signs(rail);
        retouched(rail);
        Due.end();
    }

    private static void glyphs(SignRail rail) {
        Due.is("stroke of the row", rail.stroke(1, 0, 0, 4, 0, true), 5);
        Due.is("stroke of the column", rail.stroke(2, 2, 0, 2, 4, true), 5);
        Due.is("difference", rail.difference(1, 2), 8);
        Due.is("width", rail.width(2), 1);
        Due.is("space", rail.space(1, 2, 3), 1);
        Due.is("textWidth", rail.textWidth(012, 2), 9);
    }

    private static void station(SignRail rail) {
        Due.is("lead to 3", rail.lead(0, 0, 3), SignRail.NONE);
        Due.is("lead to 5", rail.lead(0, 2, 5), SignRail.NONE);
        rail.name(5, 012, 2);
        Due.is("walk without a sign", rail.walk(0, 012, 2), SignRail.NONE);
    }

    private static void signs(SignRail rail) {
        Due.is("cut", rail.cut(0, 2, 012, 2, 3), 4);
        Due.is("read", rail.read(0, 2), 012);
        Due.is("walk", rail.walk(0, 012, 2), 1);
        Due.is("walkBySteps", rail.walkBySteps(0, 012, 2), 1);
        Due.is("placeBehind", rail.placeBehind(0, 012, 2, 1), 5);
    }

    private static void retouched(SignRail rail) {
        Due.is("stroke of a cell", rail.stroke(2, 2, 4, 2, 4, false), 1);
        Due.is("isOld", rail.isOld(0, 2), true);
        Due.is("remake", rail.remake(), 1);
        Due.is("cost", rail.cost(), 8);
        Due.is("remove", rail.remove(0, 2), true);
    }
}
