import java.math.BigInteger;
import java.util.ArrayDeque;
import java.util.ArrayList;
import java.util.Deque;
import java.util.HashSet;
import java.util.List;
import java.util.Set;

/**
 * The document once more, as slowly and plainly as it is told: ticks pass one by one, states are
 * copied whole, programs are written out. Made to be compared with PaletteTurns.
 */
final class Model {
    private static final int UNKNOWN = -1;
    private static final int OUT = -2;
    private static final int FULL = -3;
    private static final int NOT = -4;
    private static final int NONE = -5;

    /** first, last, speed, way, runs, ticks, steps. */
    private List<int[]> ranges = new ArrayList<>();
    /** place, colour, length, ticks. */
    private List<int[]> glows = new ArrayList<>();
    private int[] colours = new int[32];
    private int[][] picture = new int[8][8];
    private int ticks = 0;
    private int steps = 0;

    private Deque<Model> history = new ArrayDeque<>();
    private Model snapshot = null;
    private String text = "";

    private Model copyOfState() {
        Model copy = new Model();
        copy.takeState(this);
        return copy;
    }

    private void takeState(Model other) {
        ranges = new ArrayList<>();
        other.ranges.forEach(r -> ranges.add(r.clone()));
        glows = new ArrayList<>();
        other.glows.forEach(g -> glows.add(g.clone()));
        colours = other.colours.clone();
        for (int row = 0; row < 8; row++) {
            picture[row] = other.picture[row].clone();
        }
        ticks = other.ticks;
        steps = other.steps;
    }

    private void change() {
        history.addLast(copyOfState());
        if (history.size() > 4) {
            history.removeFirst();
        }
    }

    private static boolean in(int number, int least, int most) {
        return least <= number && number <= most;
    }

    private static boolean isColour(int colour) {
        return in(colour, 0, 262143);
    }

    int setColour(int place, int colour) {
        if (!in(place, 0, 31)) return UNKNOWN;
        if (!isColour(colour)) return OUT;
        int was = colours[place];
        if (was == colour) return NONE;
        change();
        colours[place] = colour;
        return was;
    }

    private static int[] parts(int colour) {
        return new int[] {colour / 4096, colour / 64 % 64, colour % 64};
    }

    private static int between(int from, int to, int share, int whole) {
        int[] c = parts(from);
        int[] d = parts(to);
        int colour = 0;
        for (int i = 0; i < 3; i++) {
            int product = Math.abs(d[i] - c[i]) * share;
            int quotient = product / whole;
            colour = colour * 64 + (d[i] < c[i] ? c[i] - quotient : c[i] + quotient);
        }
        return colour;
    }

    private int setAll(int[] wanted, boolean always) {
        int others = 0;
        for (int place = 0; place < 32; place++) {
            if (wanted[place] != colours[place]) others++;
        }
        if (others == 0 && !always) return NONE;
        change();
        colours = wanted;
        return others;
    }

    int blend(int first, int last, int from, int to) {
        if (!in(first, 0, 31)) return UNKNOWN;
        if (!in(last, first + 1, 31) || !isColour(from) || !isColour(to)) return OUT;
        int[] wanted = colours.clone();
        int m = last - first + 1;
        for (int k = 0; k < m; k++) {
            wanted[first + k] = between(from, to, k, m - 1);
        }
        return setAll(wanted, false);
    }

    int freeze() {
        int others = setAll(allShown(), true);
        for (int[] r : ranges) {
            r[5] = 0;
            r[6] = 0;
        }
        for (int[] g : glows) {
            g[3] = 0;
        }
        return others;
    }

    int addRange(int first, int last, int speed, int way) {
        if (!in(first, 0, 31)) return UNKNOWN;
        if (!in(last, first + 1, 31) || !in(speed, 1, 30) || !in(way, 0, 2)) return OUT;
        for (int place = first; place <= last; place++) {
            if (rangeOf(place) != null) return NOT;
        }
        if (ranges.size() == 6) return FULL;
        change();
        ranges.add(new int[] {first, last, speed, way, 1, 0, 0});
        return ranges.size() - 1;
    }

    int removeRange(int range) {
        if (!in(range, 0, ranges.size() - 1)) return UNKNOWN;
        change();
        ranges.remove(range);
        return ranges.size();
    }

    int setSpeed(int range, int speed, int way) {
        if (!in(range, 0, ranges.size() - 1)) return UNKNOWN;
        if (!in(speed, 1, 30) || !in(way, 0, 2)) return OUT;
        change();
        int[] r = ranges.get(range);
        int was = r[2];
        r[2] = speed;
        r[3] = way;
        r[5] = 0;
        r[6] = 0;
        return was;
    }

    int run(int range, boolean runs) {
        if (!in(range, 0, ranges.size() - 1)) return UNKNOWN;
        if ((ranges.get(range)[4] == 1) == runs) return NONE;
        change();
        ranges.get(range)[4] = runs ? 1 : 0;
        return total(1);
    }

    int addGlow(int place, int colour, int length) {
        if (!in(place, 0, 31)) return UNKNOWN;
        if (!isColour(colour) || !in(length, 1, 30)) return OUT;
        if (glowOf(place) != null) return NOT;
        if (glows.size() == 4) return FULL;
        change();
        glows.add(new int[] {place, colour, length, 0});
        return glows.size() - 1;
    }

    int removeGlow(int glow) {
        if (!in(glow, 0, glows.size() - 1)) return UNKNOWN;
        change();
        glows.remove(glow);
        return glows.size();
    }

    private void tick() {
        for (int[] r : ranges) {
            if (r[4] == 0) continue;
            r[5]++;
            if (r[5] == r[2]) {
                r[5] = 0;
                r[6]++;
                steps++;
            }
        }
        for (int[] g : glows) {
            g[3]++;
            if (g[3] == 2 * g[2]) g[3] = 0;
        }
        ticks++;
    }

    int pass(int passing) {
        if (!in(passing, 1, 1000)) return OUT;
        change();
        int before = steps;
        for (int i = 0; i < passing; i++) {
            tick();
        }
        return steps - before;
    }

    // a program is read by descent, and its items are written out into a list

    private int at;
    private int fault;

    private char look() {
        return at < text.length() ? text.charAt(at) : '\uffff';
    }

    /** Writes out little more than 5000 items, as what is beyond is refused. */
    private List<String> readProgram(boolean within) {
        List<String> items = new ArrayList<>();
        do {
            readItem(items);
            if (fault >= 0) return items;
        } while (within ? look() != ')' : at < text.length());
        return items;
    }

    private void accept(String allowed) {
        if (at < text.length() && allowed.indexOf(look()) >= 0) {
            at++;
        } else {
            fault = at;
        }
    }

    private void readItem(List<String> items) {
        int start = at;
        accept("tpk23456789");
        if (fault >= 0) return;
        char head = text.charAt(start);
        if (head == 't') {
            accept("123456789");
            if (fault < 0 && look() >= '0' && look() <= '9') at++;
            items.add(text.substring(start, at));
        } else if (head == 'p' || head == 'k') {
            accept("012345");
            items.add(text.substring(start, at));
        } else {
            accept("(");
            if (fault >= 0) return;
            List<String> inner = readProgram(true);
            if (fault >= 0) return;
            accept(")");
            for (int i = 0; i < head - '0' && items.size() <= 5000; i++) {
                items.addAll(inner);
            }
        }
    }

    int perform() {
        at = 0;
        fault = -1;
        List<String> items = readProgram(false);
        if (fault >= 0) return -100 - fault;
        for (int i = 0; i < text.length(); i++) {
            if ("pk".indexOf(text.charAt(i)) >= 0 && text.charAt(i + 1) - '0' >= ranges.size()) return UNKNOWN;
        }
        int passing = items.stream().filter(item -> item.charAt(0) == 't')
            .mapToInt(item -> Integer.parseInt(item.substring(1))).sum();
        if (passing > 5000 || items.size() > 5000) return FULL;
        change();
        for (String item : items) {
            int number = Integer.parseInt(item.substring(1));
            switch (item.charAt(0)) {
                case 't' -> {
                    for (int i = 0; i < number; i++) tick();
                }
                case 'p' -> ranges.get(number)[4] ^= 1;
                default -> {
                    ranges.get(number)[6]++;
                    steps++;
                }
            }
        }
        return passing;
    }

    int type(char character) {
        if (text.length() == 60) return FULL;
        text += character;
        return text.length();
    }

    int clearText() {
        int was = text.length();
        text = "";
        return was;
    }

    int paint(int row, int column, int place) {
        if (!in(row, 0, 7) || !in(column, 0, 7)) return UNKNOWN;
        if (!in(place, 0, 31)) return OUT;
        int was = picture[row][column];
        if (was == place) return NONE;
        change();
        picture[row][column] = place;
        return was;
    }

    int fill(int row, int column, int place) {
        if (!in(row, 0, 7) || !in(column, 0, 7)) return UNKNOWN;
        if (!in(place, 0, 31)) return OUT;
        if (picture[row][column] == place) return NONE;
        change();
        return spread(row, column, picture[row][column], place);
    }

    private int spread(int row, int column, int was, int place) {
        if (!in(row, 0, 7) || !in(column, 0, 7) || picture[row][column] != was) return 0;
        picture[row][column] = place;
        return 1 + spread(row - 1, column, was, place) + spread(row + 1, column, was, place)
            + spread(row, column - 1, was, place) + spread(row, column + 1, was, place);
    }

    int undo() {
        if (history.isEmpty()) return NONE;
        takeState(history.removeLast());
        return history.size();
    }

    int keep() {
        snapshot = copyOfState();
        return ranges.size();
    }

    int restore() {
        if (snapshot == null) return NONE;
        change();
        takeState(snapshot);
        return ranges.size();
    }

    int colour(int place) {
        return in(place, 0, 31) ? colours[place] : UNKNOWN;
    }

    private int[] rangeOf(int place) {
        for (int[] r : ranges) {
            if (in(place, r[0], r[1])) return r;
        }
        return null;
    }

    private int[] glowOf(int place) {
        for (int[] g : glows) {
            if (g[0] == place) return g;
        }
        return null;
    }

    private static int turn(int[] r) {
        int n = r[1] - r[0] + 1;
        if (r[3] == 0) return r[6] % n;
        if (r[3] == 1) return (n - r[6] % n) % n;
        int p = r[6] % (2 * n - 2);
        return p < n ? p : 2 * n - 2 - p;
    }

    private static int strength(int[] g) {
        return g[3] <= g[2] ? g[3] : 2 * g[2] - g[3];
    }

    private int[] allShown() {
        int[] shown = colours.clone();
        for (int[] r : ranges) {
            int n = r[1] - r[0] + 1;
            for (int k = 0; k < n; k++) {
                shown[r[0] + (k + turn(r)) % n] = colours[r[0] + k];
            }
        }
        for (int[] g : glows) {
            shown[g[0]] = between(shown[g[0]], g[1], strength(g), g[2]);
        }
        return shown;
    }

    int shown(int place) {
        return in(place, 0, 31) ? allShown()[place] : UNKNOWN;
    }

    int range(int range, int what) {
        if (!in(range, 0, ranges.size() - 1)) return UNKNOWN;
        if (!in(what, 0, 7)) return OUT;
        return what == 7 ? turn(ranges.get(range)) : ranges.get(range)[what];
    }

    int glow(int glow, int what) {
        if (!in(glow, 0, glows.size() - 1)) return UNKNOWN;
        if (!in(what, 0, 4)) return OUT;
        return what == 4 ? strength(glows.get(glow)) : glows.get(glow)[what];
    }

    int pixel(int row, int column, boolean shown) {
        if (!in(row, 0, 7) || !in(column, 0, 7)) return UNKNOWN;
        return shown ? shown(picture[row][column]) : picture[row][column];
    }

    int total(int what) {
        return switch (what) {
            case 0 -> ranges.size();
            case 1 -> (int) ranges.stream().filter(r -> r[4] == 1).count();
            case 2 -> glows.size();
            case 3 -> ticks;
            case 4 -> steps;
            case 5 -> ranges.stream().mapToInt(r -> r[1] - r[0] + 1).sum();
            case 6 -> colourCount();
            case 7 -> movingCount();
            case 8 -> history.size();
            case 9 -> text.length();
            default -> OUT;
        };
    }

    private int colourCount() {
        int[][] seen = seen();
        Set<Integer> different = new HashSet<>();
        for (int[] row : seen) {
            for (int colour : row) different.add(colour);
        }
        return different.size();
    }

    private int movingCount() {
        int count = 0;
        for (int[] row : picture) {
            for (int place : row) {
                int[] r = rangeOf(place);
                if (r != null && r[4] == 1 || glowOf(place) != null) count++;
            }
        }
        return count;
    }

    private int[][] seen() {
        int[] shown = allShown();
        int[][] seen = new int[8][8];
        for (int row = 0; row < 8; row++) {
            for (int column = 0; column < 8; column++) {
                seen[row][column] = shown[picture[row][column]];
            }
        }
        return seen;
    }

    private static int differences(int[][] one, int[][] other) {
        int count = 0;
        for (int row = 0; row < 8; row++) {
            for (int column = 0; column < 8; column++) {
                if (one[row][column] != other[row][column]) count++;
            }
        }
        return count;
    }

    private Model later(int passing) {
        Model copy = copyOfState();
        for (int i = 0; i < passing; i++) {
            copy.tick();
        }
        return copy;
    }

    int shownIn(int place, int passing) {
        if (!in(place, 0, 31)) return UNKNOWN;
        if (!in(passing, 0, 1000)) return OUT;
        return later(passing).shown(place);
    }

    /** Each range and each glow is watched by itself until it is as it was, and goes on as it did. */
    long fullTurn() {
        BigInteger all = BigInteger.ONE;
        for (int i = 0; i < ranges.size(); i++) {
            int[] start = ranges.get(i);
            int around = start[3] == 2 ? 2 * (start[1] - start[0]) : start[1] - start[0] + 1;
            Model copy = copyOfState();
            int passed = 0;
            int[] r = copy.ranges.get(i);
            do {
                copy.tick();
                passed++;
            } while (r[5] != start[5] || turn(r) != turn(start) || r[6] % around != start[6] % around);
            all = multiple(all, passed);
        }
        for (int i = 0; i < glows.size(); i++) {
            Model copy = copyOfState();
            int passed = 0;
            do {
                copy.tick();
                passed++;
            } while (copy.glows.get(i)[3] != glows.get(i)[3]);
            all = multiple(all, passed);
        }
        return all.longValueExact();
    }

    private static BigInteger multiple(BigInteger one, int number) {
        BigInteger other = BigInteger.valueOf(number);
        return one.multiply(other).divide(one.gcd(other));
    }

    private static int distance(int one, int other) {
        int[] c = parts(one);
        int[] d = parts(other);
        int sum = 0;
        for (int i = 0; i < 3; i++) {
            sum += (c[i] - d[i]) * (c[i] - d[i]);
        }
        return sum;
    }

    int nearest(int colour) {
        if (!isColour(colour)) return OUT;
        int[] shown = allShown();
        for (int reach = 0;; reach++) {
            for (int place = 0; place < 32; place++) {
                if (distance(shown[place], colour) == reach) return place;
            }
        }
    }

    int changes(int passing) {
        if (!in(passing, 0, 1000)) return OUT;
        return differences(seen(), later(passing).seen());
    }

    int pictureBack() {
        int[][] seen = seen();
        Model copy = copyOfState();
        for (int passed = 1; passed <= 2000; passed++) {
            copy.tick();
            if (differences(seen, copy.seen()) == 0) return passed;
        }
        return NONE;
    }

    int contrast() {
        int[][] seen = seen();
        int greatest = 0;
        for (int row = 0; row < 8; row++) {
            for (int column = 0; column < 8; column++) {
                if (row > 0) greatest = Math.max(greatest, distance(seen[row][column], seen[row - 1][column]));
                if (column > 0) greatest = Math.max(greatest, distance(seen[row][column], seen[row][column - 1]));
            }
        }
        return greatest;
    }
}
