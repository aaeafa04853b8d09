import java.util.ArrayList;
import java.util.Arrays;
import java.util.HashSet;
import java.util.List;
import java.util.Set;

/**
 * What the document says, told once more in another way: cells as booleans, texts as strings of digits,
 * signs as objects, and nothing kept. Its methods are called with arguments that are in range.
 */
final class Model {
    private static final class Sign {
        String text;
        int distance;
        List<boolean[][]> shapes = new ArrayList<>();
    }

    private final boolean[][][] cells = new boolean[8][5][5];
    private final int[][] spaces = new int[8][8];
    private final int[][] leads = new int[8][4];
    private final String[] names = new String[8];
    private final Sign[][] signs = new Sign[8][4];
    private long cost;

    Model() {
        for (int[] row : spaces) {
            Arrays.fill(row, 1);
        }
        for (int[] row : leads) {
            Arrays.fill(row, -1);
        }
    }

    static String digits(int text, int many) {
        StringBuilder digits = new StringBuilder(Integer.toOctalString(text));
        while (digits.length() < many) {
            digits.insert(0, '0');
        }
        return digits.toString();
    }

    static boolean isLine(int fromX, int fromY, int toX, int toY) {
        return fromX == toX || fromY == toY || fromX + fromY == toX + toY || fromX - fromY == toX - toY;
    }

    int stroke(int glyph, int fromX, int fromY, int toX, int toY, boolean isBlack) {
        int changed = 0;
        for (int x = Math.min(fromX, toX); x <= Math.max(fromX, toX); x++) {
            for (int y = Math.min(fromY, toY); y <= Math.max(fromY, toY); y++) {
                // A cell in the box of a line lies on it, if it is in line with both of its ends.
                boolean on = (x - fromX) * (toY - fromY) == (y - fromY) * (toX - fromX);
                if (on && cells[glyph][x][y] != isBlack) {
                    cells[glyph][x][y] = isBlack;
                    changed++;
                }
            }
        }
        return changed;
    }

    private static int apart(boolean[][] one, boolean[][] other) {
        int apart = 0;
        for (int x = 0; x < 5; x++) {
            for (int y = 0; y < 5; y++) {
                apart += one[x][y] != other[x][y] ? 1 : 0;
            }
        }
        return apart;
    }

    int difference(int one, int other) {
        return apart(cells[one], cells[other]);
    }

    int width(int glyph) {
        int first = 5;
        int last = -1;
        for (int x = 0; x < 5; x++) {
            for (boolean isBlack : cells[glyph][x]) {
                if (isBlack) {
                    first = Math.min(first, x);
                    last = Math.max(last, x);
                }
            }
        }
        return last < 0 ? 2 : last - first + 1;
    }

    int space(int first, int second, int space) {
        int before = spaces[first][second];
        spaces[first][second] = space;
        return before;
    }

    int lead(int place, int exit, int to) {
        int before = leads[place][exit];
        leads[place][exit] = to;
        return before;
    }

    void name(int place, String text) {
        names[place] = text;
    }

    int textWidth(String text) {
        int width = 0;
        for (int i = 0; i < text.length(); i++) {
            int glyph = text.charAt(i) - '0';
            width += width(glyph);
            if (i + 1 < text.length()) {
                width += spaces[glyph][text.charAt(i + 1) - '0'];
            }
        }
        return width;
    }

    boolean isTooWide(String text) {
        return textWidth(text) > 30;
    }

    int cut(int place, int exit, String text, int distance) {
        Sign sign = new Sign();
        sign.text = text;
        sign.distance = distance;
        for (char digit : text.toCharArray()) {
            boolean[][] copy = new boolean[5][];
            for (int x = 0; x < 5; x++) {
                copy[x] = cells[digit - '0'][x].clone();
            }
            sign.shapes.add(copy);
        }
        signs[place][exit] = sign;
        int tens = (textWidth(text) + 9) / 10;
        int plate = 1 + 3 * Math.max(1, tens);
        cost += plate;
        return plate;
    }

    boolean remove(int place, int exit) {
        boolean had = signs[place][exit] != null;
        signs[place][exit] = null;
        return had;
    }

    boolean isOld(int place, int exit) {
        Sign sign = signs[place][exit];
        boolean old = false;
        for (int i = 0; sign != null && i < sign.text.length(); i++) {
            old |= apart(sign.shapes.get(i), cells[sign.text.charAt(i) - '0']) > 0;
        }
        return old;
    }

    boolean hasOldTooWide() {
        boolean has = false;
        for (int way = 0; way < 32; way++) {
            has |= isOld(way / 4, way % 4) && isTooWide(signs[way / 4][way % 4].text);
        }
        return has;
    }

    int remake() {
        int many = 0;
        for (int way = 0; way < 32; way++) {
            if (isOld(way / 4, way % 4)) {
                Sign sign = signs[way / 4][way % 4];
                cut(way / 4, way % 4, sign.text, sign.distance);
                many++;
            }
        }
        return many;
    }

    private String readText(int place, int exit) {
        Sign sign = signs[place][exit];
        if (sign == null) {
            return "";
        }
        StringBuilder text = new StringBuilder();
        for (boolean[][] shape : sign.shapes) {
            List<Integer> order = new ArrayList<>();
            for (int glyph = 0; glyph < 8; glyph++) {
                order.add(apart(shape, cells[glyph]) * 8 + glyph);
            }
            order.sort(null);
            int lead = order.get(1) / 8 - order.get(0) / 8;
            text.append(order.get(lead >= sign.distance ? 0 : 1) % 8);
        }
        return text.toString();
    }

    int read(int place, int exit) {
        String text = readText(place, exit);
        return text.isEmpty() ? -1 : Integer.parseInt(text, 8);
    }

    long cost() {
        return cost;
    }

    /** The places at which a walker is behind 0, 1, .. steps, up to where it arrives, is lost, or has taken 30. */
    private List<Integer> trail(int from, String goal) {
        List<Integer> trail = new ArrayList<>();
        Set<Integer> taken = new HashSet<>();
        int place = from;
        trail.add(place);
        while (!goal.equals(names[place]) && trail.size() <= 30) {
            int exit = exitTo(place, goal, taken);
            if (exit < 0) {
                break;
            }
            taken.add(place * 4 + exit);
            place = leads[place][exit];
            trail.add(place);
        }
        return trail;
    }

    private int exitTo(int place, String goal, Set<Integer> taken) {
        for (int exit = 0; exit < 4; exit++) {
            if (leads[place][exit] >= 0 && readText(place, exit).equals(goal)) {
                return exit;
            }
        }
        for (int exit = 0; exit < 4; exit++) {
            if (leads[place][exit] >= 0 && !taken.contains(place * 4 + exit)) {
                return exit;
            }
        }
        return -1;
    }

    int walk(int from, String goal) {
        List<Integer> trail = trail(from, goal);
        int steps = trail.size() - 1;
        return goal.equals(names[trail.get(steps)]) ? steps : -1;
    }

    int placeBehind(int from, String goal, int steps) {
        List<Integer> trail = trail(from, goal);
        return trail.get(Math.min(steps, trail.size() - 1));
    }
}
