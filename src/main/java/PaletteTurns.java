/**
 * A palette whose ranges of colours turn at speeds of their own, with glows, a picture,
 * programs, a history and a snapshot.
 *
 * All rows are made in the constructor and used again: no call makes an object.
 */
public final class PaletteTurns {
    public static final int UNKNOWN = -1;
    public static final int OUT_OF_RANGE = -2;
    public static final int FULL = -3;
    public static final int NOT_POSSIBLE = -4;
    public static final int NONE = -5;

    private static final int PLACES = 32;
    private static final int COLOURS = 64 * 64 * 64;
    private static final int MOST_RANGES = 6;
    private static final int MOST_GLOWS = 4;
    private static final int SLOWEST = 30;
    private static final int UP = 0;
    private static final int DOWN = 1;
    private static final int TO_AND_FRO = 2;
    private static final int SIDE = 8;
    private static final int PIXELS = SIDE * SIDE;
    private static final int MOST_STATES = 4;
    private static final int LONGEST_TEXT = 60;
    private static final int MOST_TICKS = 1000;
    private static final int LATEST_BACK = 2000;
    private static final int MOST_PERFORMED = 5000;
    private static final int FAULT_AT_START = -100;

    private final State now = new State();
    private final History history = new History();
    private final Program program = new Program();
    private final int[] shades = new int[PLACES];
    private final boolean[] marked = new boolean[PLACES];
    private final int[] waiting = new int[PIXELS];

    public PaletteTurns() {
    }

    // ---- colours

    /** "The colour that was set" is the earlier one: so the shared tests read the document. */
    public int setColour(int place, int colour) {
        if (!isPlace(place)) {
            return UNKNOWN;
        }
        if (!isColour(colour)) {
            return OUT_OF_RANGE;
        }
        int previous = now.colours[place];
        if (previous == colour) {
            return NONE;
        }
        history.record(now);
        now.colours[place] = colour;
        return previous;
    }

    public int blend(int first, int last, int from, int to) {
        if (!isPlace(first)) {
            return UNKNOWN;
        }
        if (!isPlace(last) || last <= first || !isColour(from) || !isColour(to)) {
            return OUT_OF_RANGE;
        }
        for (int place = first; place <= last; place++) {
            shades[place] = mixed(from, to, place - first, last - first);
        }
        int others = otherShades(first, last);
        if (others == 0) {
            return NONE;
        }
        history.record(now);
        setShades(first, last);
        return others;
    }

    public int freeze() {
        findShades();
        int others = otherShades(0, PLACES - 1);
        history.record(now);
        setShades(0, PLACES - 1);
        now.beginAgain();
        return others;
    }

    // ---- ranges, glows

    public int addRange(int first, int last, int speed, int way) {
        if (!isPlace(first)) {
            return UNKNOWN;
        }
        if (!isPlace(last) || last <= first || !isLength(speed) || !isWay(way)) {
            return OUT_OF_RANGE;
        }
        if (now.hasRangeBetween(first, last)) {
            return NOT_POSSIBLE;
        }
        if (now.rangeCount >= MOST_RANGES) {
            return FULL;
        }
        history.record(now);
        return now.appendRange(first, last, speed, way);
    }

    public int removeRange(int range) {
        if (!isRange(range)) {
            return UNKNOWN;
        }
        history.record(now);
        now.dropRange(range);
        return now.rangeCount;
    }

    public int setSpeed(int range, int speed, int way) {
        if (!isRange(range)) {
            return UNKNOWN;
        }
        if (!isLength(speed) || !isWay(way)) {
            return OUT_OF_RANGE;
        }
        history.record(now);
        int previous = now.ranges[range].speed;
        now.ranges[range].changeSpeed(speed, way);
        return previous;
    }

    public int run(int range, boolean runs) {
        if (!isRange(range)) {
            return UNKNOWN;
        }
        if (now.ranges[range].runs == runs) {
            return NONE;
        }
        history.record(now);
        now.ranges[range].runs = runs;
        return now.runningRanges();
    }

    public int addGlow(int place, int colour, int length) {
        if (!isPlace(place)) {
            return UNKNOWN;
        }
        if (!isColour(colour) || !isLength(length)) {
            return OUT_OF_RANGE;
        }
        if (now.glowAt(place) != null) {
            return NOT_POSSIBLE;
        }
        if (now.glowCount >= MOST_GLOWS) {
            return FULL;
        }
        history.record(now);
        return now.appendGlow(place, colour, length);
    }

    public int removeGlow(int glow) {
        if (!isGlow(glow)) {
            return UNKNOWN;
        }
        history.record(now);
        now.dropGlow(glow);
        return now.glowCount;
    }

    // ---- time, programs

    public int pass(int ticks) {
        if (ticks < 1 || ticks > MOST_TICKS) {
            return OUT_OF_RANGE;
        }
        history.record(now);
        return now.advance(ticks);
    }

    public int perform() {
        int fault = program.fault();
        if (fault != Program.NO_FAULT) {
            return FAULT_AT_START - fault;
        }
        if (program.highestRange() >= now.rangeCount) {
            return UNKNOWN;
        }
        program.count();
        if (program.ticks > MOST_PERFORMED || program.items > MOST_PERFORMED) {
            return FULL;
        }
        history.record(now);
        program.carryOut(now);
        return program.ticks;
    }

    public int type(char character) {
        if (program.length >= LONGEST_TEXT) {
            return FULL;
        }
        program.append(character);
        return program.length;
    }

    public int clearText() {
        int previous = program.length;
        program.length = 0;
        return previous;
    }

    // ---- the picture

    public int paint(int row, int column, int place) {
        if (!isPixel(row, column)) {
            return UNKNOWN;
        }
        if (!isPlace(place)) {
            return OUT_OF_RANGE;
        }
        int pixel = row * SIDE + column;
        int previous = now.pixels[pixel];
        if (previous == place) {
            return NONE;
        }
        history.record(now);
        now.pixels[pixel] = place;
        return previous;
    }

    public int fill(int row, int column, int place) {
        if (!isPixel(row, column)) {
            return UNKNOWN;
        }
        if (!isPlace(place)) {
            return OUT_OF_RANGE;
        }
        int pixel = row * SIDE + column;
        if (now.pixels[pixel] == place) {
            return NONE;
        }
        history.record(now);
        return flood(pixel, place);
    }

    // ---- history

    public int undo() {
        if (history.count == 0) {
            return NONE;
        }
        history.takeBack(now);
        return history.count;
    }

    public int keep() {
        history.snapshot.copy(now);
        history.hasSnapshot = true;
        return now.rangeCount;
    }

    public int restore() {
        if (!history.hasSnapshot) {
            return NONE;
        }
        history.record(now);
        now.copy(history.snapshot);
        return now.rangeCount;
    }

    // ---- what there is

    public int colour(int place) {
        return isPlace(place) ? now.colours[place] : UNKNOWN;
    }

    public int shown(int place) {
        return isPlace(place) ? now.shade(place, 0) : UNKNOWN;
    }

    public int range(int range, int what) {
        if (!isRange(range)) {
            return UNKNOWN;
        }
        Range asked = now.ranges[range];
        switch (what) {
            case 0:
                return asked.first;
            case 1:
                return asked.last;
            case 2:
                return asked.speed;
            case 3:
                return asked.way;
            case 4:
                return asked.runs ? 1 : 0;
            case 5:
                return asked.ticks;
            case 6:
                return asked.steps;
            case 7:
                return asked.turn(0);
            default:
                return OUT_OF_RANGE;
        }
    }

    public int glow(int glow, int what) {
        if (!isGlow(glow)) {
            return UNKNOWN;
        }
        Glow asked = now.glows[glow];
        switch (what) {
            case 0:
                return asked.place;
            case 1:
                return asked.colour;
            case 2:
                return asked.length;
            case 3:
                return asked.ticks;
            case 4:
                return asked.strength(0);
            default:
                return OUT_OF_RANGE;
        }
    }

    public int pixel(int row, int column, boolean shown) {
        if (!isPixel(row, column)) {
            return UNKNOWN;
        }
        int place = now.pixels[row * SIDE + column];
        return shown ? now.shade(place, 0) : place;
    }

    public int total(int what) {
        switch (what) {
            case 0:
                return now.rangeCount;
            case 1:
                return now.runningRanges();
            case 2:
                return now.glowCount;
            case 3:
                return now.ticks;
            case 4:
                return now.steps;
            case 5:
                return now.placesInRanges();
            case 6:
                return differentColours();
            case 7:
                return movingPixels();
            case 8:
                return history.count;
            case 9:
                return program.length;
            default:
                return OUT_OF_RANGE;
        }
    }

    // ---- what would be; nothing changes

    public int shownIn(int place, int ticks) {
        if (!isPlace(place)) {
            return UNKNOWN;
        }
        return isLater(ticks) ? now.shade(place, ticks) : OUT_OF_RANGE;
    }

    public long fullTurn() {
        long ticks = 1;
        for (int range = 0; range < now.rangeCount; range++) {
            ticks = commonMultiple(ticks, now.ranges[range].fullTicks());
        }
        for (int glow = 0; glow < now.glowCount; glow++) {
            ticks = commonMultiple(ticks, now.glows[glow].fullTicks());
        }
        return ticks;
    }

    public int nearest(int colour) {
        if (!isColour(colour)) {
            return OUT_OF_RANGE;
        }
        findShades();
        int best = 0;
        for (int place = 1; place < PLACES; place++) {
            if (distance(shades[place], colour) < distance(shades[best], colour)) {
                best = place;
            }
        }
        return best;
    }

    public int changes(int ticks) {
        if (!isLater(ticks)) {
            return OUT_OF_RANGE;
        }
        for (int place = 0; place < PLACES; place++) {
            marked[place] = now.shade(place, 0) != now.shade(place, ticks);
        }
        return markedPixels();
    }

    public int pictureBack() {
        findShades();
        markMovingPlacesOfPicture();
        for (int ticks = 1; ticks <= LATEST_BACK; ticks++) {
            if (markedPlacesShowShades(ticks)) {
                return ticks;
            }
        }
        return NONE;
    }

    public int contrast() {
        findShades();
        int greatest = 0;
        for (int pixel = 0; pixel < PIXELS; pixel++) {
            if (pixel % SIDE + 1 < SIDE) {
                greatest = Math.max(greatest, pixelDistance(pixel, pixel + 1));
            }
            if (pixel + SIDE < PIXELS) {
                greatest = Math.max(greatest, pixelDistance(pixel, pixel + SIDE));
            }
        }
        return greatest;
    }

    // ---- what arguments may be

    private static boolean isPlace(int place) {
        return place >= 0 && place < PLACES;
    }

    private static boolean isColour(int colour) {
        return colour >= 0 && colour < COLOURS;
    }

    /** Speeds of ranges and lengths of glows have the same bounds. */
    private static boolean isLength(int ticks) {
        return ticks >= 1 && ticks <= SLOWEST;
    }

    private static boolean isWay(int way) {
        return way >= UP && way <= TO_AND_FRO;
    }

    private static boolean isPixel(int row, int column) {
        return row >= 0 && row < SIDE && column >= 0 && column < SIDE;
    }

    private static boolean isLater(int ticks) {
        return ticks >= 0 && ticks <= MOST_TICKS;
    }

    private boolean isRange(int range) {
        return range >= 0 && range < now.rangeCount;
    }

    private boolean isGlow(int glow) {
        return glow >= 0 && glow < now.glowCount;
    }

    // ---- colours and their parts

    /** The colour that stands share / whole of the way; whole is 1 at least. */
    private static int mixed(int from, int to, int share, int whole) {
        int red = mixedPart(part(from, 12), part(to, 12), share, whole);
        int green = mixedPart(part(from, 6), part(to, 6), share, whole);
        int blue = mixedPart(part(from, 0), part(to, 0), share, whole);
        return (red << 12) + (green << 6) + blue;
    }

    private static int mixedPart(int from, int to, int share, int whole) {
        return from + (to - from) * share / whole;
    }

    private static int part(int colour, int shift) {
        return (colour >> shift) & 63;
    }

    private static int distance(int one, int other) {
        int red = part(one, 12) - part(other, 12);
        int green = part(one, 6) - part(other, 6);
        int blue = part(one, 0) - part(other, 0);
        return red * red + green * green + blue * blue;
    }

    private void findShades() {
        for (int place = 0; place < PLACES; place++) {
            shades[place] = now.shade(place, 0);
        }
    }

    private int otherShades(int first, int last) {
        int others = 0;
        for (int place = first; place <= last; place++) {
            if (shades[place] != now.colours[place]) {
                others++;
            }
        }
        return others;
    }

    private void setShades(int first, int last) {
        for (int place = first; place <= last; place++) {
            now.colours[place] = shades[place];
        }
    }

    // ---- pixels

    /** A pixel gets its place when it is put into the queue, so it is put there once only. */
    private int flood(int pixel, int place) {
        int previous = now.pixels[pixel];
        int reached = enter(pixel, previous, place, 0);
        for (int next = 0; next < PIXELS && next < reached; next++) {
            int centre = waiting[next];
            int column = centre % SIDE;
            if (column > 0) {
                reached = enter(centre - 1, previous, place, reached);
            }
            if (column + 1 < SIDE) {
                reached = enter(centre + 1, previous, place, reached);
            }
            if (centre >= SIDE) {
                reached = enter(centre - SIDE, previous, place, reached);
            }
            if (centre + SIDE < PIXELS) {
                reached = enter(centre + SIDE, previous, place, reached);
            }
        }
        return reached;
    }

    private int enter(int pixel, int previous, int place, int reached) {
        if (now.pixels[pixel] != previous || reached >= PIXELS) {
            return reached;
        }
        now.pixels[pixel] = place;
        waiting[reached] = pixel;
        return reached + 1;
    }

    private int pixelDistance(int one, int other) {
        return distance(shades[now.pixels[one]], shades[now.pixels[other]]);
    }

    private void markPlacesOfPicture() {
        for (int place = 0; place < PLACES; place++) {
            marked[place] = false;
        }
        for (int pixel = 0; pixel < PIXELS; pixel++) {
            marked[now.pixels[pixel]] = true;
        }
    }

    /** Places that can't move need not be looked at again, tick for tick. */
    private void markMovingPlacesOfPicture() {
        markPlacesOfPicture();
        for (int place = 0; place < PLACES; place++) {
            marked[place] = marked[place] && now.moves(place);
        }
    }

    private boolean markedPlacesShowShades(int later) {
        for (int place = 0; place < PLACES; place++) {
            if (marked[place] && now.shade(place, later) != shades[place]) {
                return false;
            }
        }
        return true;
    }

    private int markedPixels() {
        int count = 0;
        for (int pixel = 0; pixel < PIXELS; pixel++) {
            if (marked[now.pixels[pixel]]) {
                count++;
            }
        }
        return count;
    }

    private int movingPixels() {
        for (int place = 0; place < PLACES; place++) {
            marked[place] = now.moves(place);
        }
        return markedPixels();
    }

    private int differentColours() {
        findShades();
        markPlacesOfPicture();
        int count = 0;
        for (int place = 0; place < PLACES; place++) {
            if (marked[place] && !isMarkedBefore(place)) {
                count++;
            }
        }
        return count;
    }

    private boolean isMarkedBefore(int place) {
        for (int earlier = 0; earlier < place; earlier++) {
            if (marked[earlier] && shades[earlier] == shades[place]) {
                return true;
            }
        }
        return false;
    }

    // ---- numbers

    /** Of numbers from 1; dividing first keeps the product within a long. */
    private static long commonMultiple(long one, long other) {
        long divisor = commonDivisor(one, other);
        return divisor > 0 ? one / divisor * other : one;
    }

    private static long commonDivisor(long one, long other) {
        long divisor = one;
        long rest = other;
        for (int round = 0; round < 1000 && rest != 0; round++) {
            long next = divisor % rest;
            divisor = rest;
            rest = next;
        }
        return divisor;
    }

    /** A range; speed and last are always such that nothing is divided by 0, unused ones included. */
    private static final class Range {
        int first = 0;
        int last = 1;
        int speed = 1;
        int way = UP;
        boolean runs = true;
        int ticks = 0;
        int steps = 0;

        void begin(int firstPlace, int lastPlace, int newSpeed, int newWay) {
            first = firstPlace;
            last = lastPlace;
            runs = true;
            changeSpeed(newSpeed, newWay);
        }

        void changeSpeed(int newSpeed, int newWay) {
            speed = newSpeed;
            way = newWay;
            beginAgain();
        }

        void beginAgain() {
            ticks = 0;
            steps = 0;
        }

        void copy(Range other) {
            first = other.first;
            last = other.last;
            speed = other.speed;
            way = other.way;
            runs = other.runs;
            ticks = other.ticks;
            steps = other.steps;
        }

        boolean holds(int place) {
            return place >= first && place <= last;
        }

        int places() {
            return last - first + 1;
        }

        /** After so many steps the turn is as it was, and goes on as it did. */
        int fullSteps() {
            int beyondFirst = last - first;
            return way == TO_AND_FRO ? 2 * beyondFirst : beyondFirst + 1;
        }

        int fullTicks() {
            return runs ? speed * fullSteps() : 1;
        }

        /** Returns how many steps it makes by that. */
        int advance(int passing) {
            if (!runs) {
                return 0;
            }
            int made = (ticks + passing) / speed;
            ticks = (ticks + passing) % speed;
            steps += made;
            return made;
        }

        int turn(int later) {
            int made = runs ? steps + (ticks + later) / speed : steps;
            int phase = Math.floorMod(made, fullSteps());
            if (way == DOWN) {
                return phase == 0 ? 0 : places() - phase;
            }
            return phase < places() ? phase : fullSteps() - phase;
        }

        /** The place whose set colour is turned to a place of this range. */
        int source(int place, int later) {
            return first + Math.floorMod(place - first - turn(later), places());
        }
    }

    /** A glow; its length is always 1 at least, as it divides. */
    private static final class Glow {
        int place = 0;
        int colour = 0;
        int length = 1;
        int ticks = 0;

        void begin(int newPlace, int newColour, int newLength) {
            place = newPlace;
            colour = newColour;
            length = newLength;
            ticks = 0;
        }

        void copy(Glow other) {
            place = other.place;
            colour = other.colour;
            length = other.length;
            ticks = other.ticks;
        }

        int fullTicks() {
            return 2 * length;
        }

        void advance(int passing) {
            ticks = (ticks + passing) % fullTicks();
        }

        int strength(int later) {
            int then = (ticks + later) % fullTicks();
            return then <= length ? then : fullTicks() - then;
        }

        int shade(int turned, int later) {
            return mixed(turned, colour, strength(later), length);
        }
    }

    /** Everything that undo and restore bring back. */
    private static final class State {
        final int[] colours = new int[PLACES];
        final int[] pixels = new int[PIXELS];
        final Range[] ranges = new Range[MOST_RANGES];
        final Glow[] glows = new Glow[MOST_GLOWS];
        int rangeCount = 0;
        int glowCount = 0;
        int ticks = 0;
        int steps = 0;

        State() {
            for (int range = 0; range < MOST_RANGES; range++) {
                ranges[range] = new Range();
            }
            for (int glow = 0; glow < MOST_GLOWS; glow++) {
                glows[glow] = new Glow();
            }
        }

        void copy(State other) {
            System.arraycopy(other.colours, 0, colours, 0, PLACES);
            System.arraycopy(other.pixels, 0, pixels, 0, PIXELS);
            rangeCount = other.rangeCount;
            for (int range = 0; range < rangeCount; range++) {
                ranges[range].copy(other.ranges[range]);
            }
            glowCount = other.glowCount;
            for (int glow = 0; glow < glowCount; glow++) {
                glows[glow].copy(other.glows[glow]);
            }
            ticks = other.ticks;
            steps = other.steps;
        }

        Range rangeAt(int place) {
            for (int range = 0; range < rangeCount; range++) {
                if (ranges[range].holds(place)) {
                    return ranges[range];
                }
            }
            return null;
        }

        Glow glowAt(int place) {
            for (int glow = 0; glow < glowCount; glow++) {
                if (glows[glow].place == place) {
                    return glows[glow];
                }
            }
            return null;
        }

        boolean hasRangeBetween(int first, int last) {
            for (int range = 0; range < rangeCount; range++) {
                if (ranges[range].first <= last && ranges[range].last >= first) {
                    return true;
                }
            }
            return false;
        }

        /** Returns the number of the new range; there must be room. */
        int appendRange(int first, int last, int speed, int way) {
            ranges[rangeCount].begin(first, last, speed, way);
            rangeCount++;
            return rangeCount - 1;
        }

        /** The dropped range goes behind the others, to be used again. */
        void dropRange(int number) {
            Range dropped = ranges[number];
            rangeCount--;
            for (int range = number; range < rangeCount; range++) {
                ranges[range] = ranges[range + 1];
            }
            ranges[rangeCount] = dropped;
        }

        /** Returns the number of the new glow; there must be room. */
        int appendGlow(int place, int colour, int length) {
            glows[glowCount].begin(place, colour, length);
            glowCount++;
            return glowCount - 1;
        }

        /** The dropped glow goes behind the others, to be used again. */
        void dropGlow(int number) {
            Glow dropped = glows[number];
            glowCount--;
            for (int glow = number; glow < glowCount; glow++) {
                glows[glow] = glows[glow + 1];
            }
            glows[glowCount] = dropped;
        }

        void beginAgain() {
            for (int range = 0; range < rangeCount; range++) {
                ranges[range].beginAgain();
            }
            for (int glow = 0; glow < glowCount; glow++) {
                glows[glow].ticks = 0;
            }
        }

        /** Returns how many steps all ranges together make by that. */
        int advance(int passing) {
            int made = 0;
            for (int range = 0; range < rangeCount; range++) {
                made += ranges[range].advance(passing);
            }
            for (int glow = 0; glow < glowCount; glow++) {
                glows[glow].advance(passing);
            }
            ticks += passing;
            steps += made;
            return made;
        }

        void stepAtOnce(int range) {
            ranges[range].steps++;
            steps++;
        }

        void runOrPause(int range) {
            ranges[range].runs = !ranges[range].runs;
        }

        int runningRanges() {
            int count = 0;
            for (int range = 0; range < rangeCount; range++) {
                if (ranges[range].runs) {
                    count++;
                }
            }
            return count;
        }

        int placesInRanges() {
            int count = 0;
            for (int range = 0; range < rangeCount; range++) {
                count += ranges[range].places();
            }
            return count;
        }

        /** Whether ticks can change what is shown at a place. */
        boolean moves(int place) {
            Range range = rangeAt(place);
            return range != null && range.runs || glowAt(place) != null;
        }

        /** The colour that is shown at a place some ticks later. */
        int shade(int place, int later) {
            Range range = rangeAt(place);
            int turned = colours[range == null ? place : range.source(place, later)];
            Glow glow = glowAt(place);
            return glow == null ? turned : glow.shade(turned, later);
        }
    }

    /** Earlier states, the oldest one first, and the snapshot. */
    private static final class History {
        final State[] states = new State[MOST_STATES];
        final State snapshot = new State();
        int count = 0;
        boolean hasSnapshot = false;

        History() {
            for (int state = 0; state < MOST_STATES; state++) {
                states[state] = new State();
            }
        }

        void record(State state) {
            if (count == MOST_STATES) {
                dropOldest();
            }
            states[count].copy(state);
            count++;
        }

        /** The dropped state goes behind the others, to be used again. */
        void dropOldest() {
            State dropped = states[0];
            count--;
            for (int state = 0; state < count; state++) {
                states[state] = states[state + 1];
            }
            states[count] = dropped;
        }

        /** There must be a state. */
        void takeBack(State state) {
            count--;
            state.copy(states[count]);
        }
    }

    /** The text, and the program that it is; but for fault, all expects a text without one. */
    private static final class Program {
        static final int NO_FAULT = -1;
        /** Far above what 5000 items and the repeats around them can take. */
        static final int MOST_ROUNDS = 1000000;
        /** Counts go no further, so that they can't overflow. */
        static final int TOO_MANY = MOST_PERFORMED + 1;

        final char[] signs = new char[LONGEST_TEXT];
        final int[] starts = new int[LONGEST_TEXT];
        final int[] times = new int[LONGEST_TEXT];
        int length = 0;
        int ticks = 0;
        int items = 0;

        /** There must be room. */
        void append(char sign) {
            signs[length] = sign;
            length++;
        }

        /** Behind the end stands a sign that is allowed nowhere. */
        char signAt(int index) {
            return index < length ? signs[index] : (char) 0;
        }

        static boolean isDigit(char sign, char lowest, char highest) {
            return sign >= lowest && sign <= highest;
        }

        static boolean isRepeat(char sign) {
            return isDigit(sign, '2', '9');
        }

        static boolean isForRange(char sign) {
            return sign == 'p' || sign == 'k';
        }

        static boolean isBeginning(char sign) {
            return sign == 't' || isForRange(sign) || isRepeat(sign);
        }

        static boolean isAllowedBehind(char beginning, char sign) {
            if (beginning == 't') {
                return isDigit(sign, '1', '9');
            }
            return isForRange(beginning) ? isDigit(sign, '0', '5') : sign == '(';
        }

        /** The index behind an item, behind the bracket that opens a repeat, or behind a closing one. */
        int behind(int index) {
            if (signAt(index) == ')') {
                return index + 1;
            }
            boolean hasTwoDigits = signAt(index) == 't' && isDigit(signAt(index + 2), '0', '9');
            return index + (hasTwoDigits ? 3 : 2);
        }

        int digitAt(int index) {
            return signAt(index) - '0';
        }

        int numberAt(int index) {
            int tens = digitAt(index);
            return isDigit(signAt(index + 1), '0', '9') ? 10 * tens + digitAt(index + 1) : tens;
        }

        int fault() {
            int open = 0;
            boolean isItemDue = true;
            int index = 0;
            for (int round = 0; round < LONGEST_TEXT && index < length; round++) {
                char sign = signAt(index);
                if (sign == ')' && open > 0 && !isItemDue) {
                    open--;
                } else if (!isBeginning(sign)) {
                    return index;
                } else if (!isAllowedBehind(sign, signAt(index + 1))) {
                    return index + 1;
                } else {
                    isItemDue = isRepeat(sign);
                    open += isItemDue ? 1 : 0;
                }
                index = behind(index);
            }
            return isItemDue || open > 0 ? length : NO_FAULT;
        }

        /** The highest number of a range that is named, or -1. */
        int highestRange() {
            int highest = -1;
            for (int index = 0; index < length; index++) {
                if (isForRange(signAt(index))) {
                    highest = Math.max(highest, digitAt(index + 1));
                }
            }
            return highest;
        }

        /** Finds how many ticks would pass, and how many items would be carried out. */
        void count() {
            ticks = 0;
            items = 0;
            int depth = 0;
            times[0] = 1;
            int index = 0;
            for (int round = 0; round < LONGEST_TEXT && index < length; round++) {
                char sign = signAt(index);
                if (sign == ')') {
                    depth--;
                } else if (isRepeat(sign)) {
                    times[depth + 1] = Math.min(times[depth] * digitAt(index), TOO_MANY);
                    depth++;
                } else {
                    int passing = sign == 't' ? numberAt(index + 1) : 0;
                    ticks = Math.min(ticks + times[depth] * passing, TOO_MANY);
                    items = Math.min(items + times[depth], TOO_MANY);
                }
                index = behind(index);
            }
        }

        void carryOut(State state) {
            int depth = 0;
            int index = 0;
            for (int round = 0; round < MOST_ROUNDS && index < length; round++) {
                char sign = signAt(index);
                int next = behind(index);
                if (isRepeat(sign)) {
                    starts[depth] = next;
                    times[depth] = digitAt(index);
                    depth++;
                } else if (sign != ')') {
                    carryOutItem(index, state);
                } else if (times[depth - 1] > 1) {
                    times[depth - 1]--;
                    next = starts[depth - 1];
                } else {
                    depth--;
                }
                index = next;
            }
        }

        void carryOutItem(int index, State state) {
            switch (signAt(index)) {
                case 't':
                    state.advance(numberAt(index + 1));
                    break;
                case 'p':
                    state.runOrPause(digitAt(index + 1));
                    break;
                default:
                    state.stepAtOnce(digitAt(index + 1));
                    break;
            }
        }
    }
}
