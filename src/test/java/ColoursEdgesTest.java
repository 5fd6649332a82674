/** Boundary cases of promises 1 to 4, 20 and 21: a new object, setColour, blend, freeze, colour, shown. */
final class ColoursEdgesTest {
    private static final Edges E = new Edges("ColoursEdgesTest");
    private static final int UNKNOWN = PaletteTurns.UNKNOWN;
    private static final int OUT_OF_RANGE = PaletteTurns.OUT_OF_RANGE;
    private static final int NONE = PaletteTurns.NONE;
    private static final int WHITE = 262143;

    public static void main(String[] args) {
        newObject();
        setColour();
        setColourNone();
        blendPlaces();
        blendColours();
        blendShares();
        blendCount();
        freeze();
        freezeTurns();
        colour();
        shown();
        E.end();
    }

    private static void newObject() {
        E.test("Promise 1: set colours are 0, the first and the last", x -> {
            E.due("colour(0)", x.colour(0), 0);
            E.due("colour(31)", x.colour(31), 0);
        });
        E.test("Promise 1: without ranges", x -> {
            E.due("total(0)", x.total(0), 0);
            E.due("range(0, 0)", x.range(0, 0), UNKNOWN);
            E.due("total(5)", x.total(5), 0);
        });
        E.test("Promise 1: and glows", x -> {
            E.due("total(2)", x.total(2), 0);
            E.due("glow(0, 0)", x.glow(0, 0), UNKNOWN);
        });
        E.test("Promise 1: two objects have nothing in common", x -> {
            x.setColour(0, 5);
            x.addRange(0, 1, 1, 0);
            x.keep();
            x.type('t');
            PaletteTurns other = new PaletteTurns();
            E.due("colour(0)", other.colour(0), 0);
            E.due("total(0)", other.total(0), 0);
            E.due("total(9)", other.total(9), 0);
            E.due("restore()", other.restore(), NONE);
            E.due("undo()", other.undo(), NONE);
        });
    }

    private static void setColour() {
        E.test("Promise 2: place 0 to 31", x -> {
            E.due("place 0", x.setColour(0, 5), 0);
            E.due("place 31", x.setColour(31, 6), 0);
            E.due("colour(0)", x.colour(0), 5);
            E.due("colour(31)", x.colour(31), 6);
            E.outside(0, 31, "place", Edges.NEW, (y, place) -> y.setColour(place, 5), UNKNOWN);
            E.outside(0, 31, "place", Edges.RICH, (y, place) -> y.setColour(place, 5), UNKNOWN);
        });
        E.test("Promise 2: colour 0 to 262143", x -> {
            E.due("colour 262143", x.setColour(3, WHITE), 0);
            E.due("it is set", x.colour(3), WHITE);
            E.due("colour 0", x.setColour(3, 0), WHITE);
            E.due("it is set", x.colour(3), 0);
            E.outside(0, WHITE, "colour", Edges.NEW, (y, colour) -> y.setColour(3, colour), OUT_OF_RANGE);
            E.outside(0, WHITE, "colour", Edges.RICH, (y, colour) -> y.setColour(3, colour), OUT_OF_RANGE);
        });
        E.test("Promise 2: UNKNOWN ahead of OUT_OF_RANGE", x -> {
            E.refused("setColour(32, 262144)", y -> y.setColour(32, WHITE + 1), UNKNOWN);
            E.refused("setColour(-1, -1)", y -> y.setColour(-1, -1), UNKNOWN);
        });
        E.test("Promise 2: this is a change", x -> {
            E.recorded("setColour when new", Edges.NEW, y -> y.setColour(0, 5), 0);
            E.recorded("setColour when rich", Edges.RICH, y -> y.setColour(13, 5), 777);
        });
    }

    private static void setColourNone() {
        E.test("Promise 2: NONE if it is set already", x -> {
            E.refused("setColour(0, 0)", y -> y.setColour(0, 0), NONE);
            E.leavesAll("setColour(13, 777)", Edges.RICH, y -> y.setColour(13, 777), NONE);
        });
        E.test("Promise 2: NONE if it is set already, whatever is shown", x -> {
            x.setColour(0, 5);
            x.addRange(0, 1, 1, 0);
            x.pass(1);
            E.due("the colour that is set", x.setColour(0, 5), NONE);
            E.due("the colour that is shown", x.setColour(0, 0), 5);
        });
    }

    private static void blendPlaces() {
        E.test("Promise 3: first 0 to 31", x -> {
            E.due("first 0", x.blend(0, 1, 5, 6), 2);
            E.due("colour(0)", x.colour(0), 5);
            E.due("first 30", x.blend(30, 31, 7, 8), 2);
            E.due("colour(30)", x.colour(30), 7);
            E.outside(0, 31, "first", Edges.NEW, (y, first) -> y.blend(first, 31, 5, 6), UNKNOWN);
            E.outside(0, 31, "first", Edges.RICH, (y, first) -> y.blend(first, 31, 5, 6), UNKNOWN);
        });
        E.test("Promise 3: first 31 is a place, but no last place is left", x -> {
            E.refused("blend(31, 32, 5, 6)", y -> y.blend(31, 32, 5, 6), OUT_OF_RANGE);
            E.refused("blend(31, 31, 5, 6)", y -> y.blend(31, 31, 5, 6), OUT_OF_RANGE);
        });
        E.test("Promise 3: last first + 1 to 31", x -> {
            E.due("first + 1", x.blend(12, 13, 5, 6), 2);
            E.due("31", x.blend(12, 31, 7, 8), 20);
            E.due("colour(31)", x.colour(31), 8);
            E.outside(13, 31, "last", Edges.NEW, (y, last) -> y.blend(12, last, 5, 6), OUT_OF_RANGE);
            E.outside(13, 31, "last", Edges.RICH, (y, last) -> y.blend(12, last, 5, 6), OUT_OF_RANGE);
        });
        E.test("Promise 3: last less than first", x ->
            E.refused("blend(12, 11, 5, 6)", y -> y.blend(12, 11, 5, 6), OUT_OF_RANGE));
        E.test("Promise 3: the places in a row alone", x -> {
            x.blend(5, 7, 1, 1);
            E.due("ahead of the first", x.colour(4), 0);
            E.due("the first", x.colour(5), 1);
            E.due("the last", x.colour(7), 1);
            E.due("behind the last", x.colour(8), 0);
        });
    }

    private static void blendColours() {
        E.test("Promise 3: from 0 to 262143", x -> {
            E.due("262143", x.blend(3, 4, WHITE, 5), 2);
            E.due("it is set", x.colour(3), WHITE);
            E.due("0", x.blend(3, 4, 0, 5), 1);
            E.due("it is set", x.colour(3), 0);
            E.outside(0, WHITE, "from", Edges.NEW, (y, from) -> y.blend(3, 4, from, 5), OUT_OF_RANGE);
            E.outside(0, WHITE, "from", Edges.RICH, (y, from) -> y.blend(3, 4, from, 5), OUT_OF_RANGE);
        });
        E.test("Promise 3: to 0 to 262143", x -> {
            E.due("262143", x.blend(3, 4, 5, WHITE), 2);
            E.due("it is set", x.colour(4), WHITE);
            E.due("0", x.blend(3, 4, 5, 0), 1);
            E.due("it is set", x.colour(4), 0);
            E.outside(0, WHITE, "to", Edges.NEW, (y, to) -> y.blend(3, 4, 5, to), OUT_OF_RANGE);
            E.outside(0, WHITE, "to", Edges.RICH, (y, to) -> y.blend(3, 4, 5, to), OUT_OF_RANGE);
        });
        E.test("Promise 3: UNKNOWN ahead of OUT_OF_RANGE", x -> {
            E.refused("first and last", y -> y.blend(32, 32, 0, 0), UNKNOWN);
            E.refused("first and from", y -> y.blend(-1, 4, -1, 0), UNKNOWN);
            E.refused("first and to", y -> y.blend(-1, 4, 0, WHITE + 1), UNKNOWN);
        });
        E.test("Promise 3: OUT_OF_RANGE ahead of NONE", x -> {
            E.refused("no place but the first, which has the colour", y -> y.blend(31, 31, 0, 0), OUT_OF_RANGE);
            E.refused("beyond the last place", y -> y.blend(30, 32, 0, 0), OUT_OF_RANGE);
        });
    }

    private static void colours(PaletteTurns x, int first, int... due) {
        for (int k = 0; k < due.length; k++) {
            E.due("colour(" + (first + k) + ")", x.colour(first + k), due[k]);
        }
    }

    private static void blendShares() {
        E.test("Promise 3: with two places, the one colour and the other one", x -> {
            x.blend(3, 4, Checks.rgb(1, 2, 3), Checks.rgb(60, 50, 40));
            colours(x, 3, Checks.rgb(1, 2, 3), Checks.rgb(60, 50, 40));
        });
        E.test("Promise 3: the quotient rounded towards 0, to a greater part", x -> {
            x.blend(3, 6, 0, 11);
            colours(x, 3, 0, 3, 7, 11);
        });
        E.test("Promise 3: the quotient rounded towards 0, to a lesser part", x -> {
            x.blend(3, 6, 11, 0);
            colours(x, 3, 11, 8, 4, 0);
        });
        E.test("Promise 3: c and d being the parts of both colours, each by itself", x -> {
            x.blend(3, 5, Checks.rgb(0, 63, 20), Checks.rgb(63, 0, 20));
            colours(x, 3, Checks.rgb(0, 63, 20), Checks.rgb(31, 32, 20), Checks.rgb(63, 0, 20));
        });
        E.test("Promise 3: the whole palette", x -> {
            E.due("blend(0, 31, 0, 62)", x.blend(0, 31, 0, 62), 31);
            for (int place = 0; place < 32; place++) {
                E.due("colour(" + place + ")", x.colour(place), 2 * place);
            }
        });
    }

    private static void blendCount() {
        E.test("Promise 3: how many places get another set colour, one", x -> {
            x.blend(3, 5, 7, 7);
            E.due("the last alone", x.blend(3, 5, 7, 8), 1);
            E.due("the first alone", x.blend(3, 5, 9, 8), 2);
        });
        E.test("Promise 3: how many places get another set colour, all", x ->
            E.due("blend(0, 31, 1, 1)", x.blend(0, 31, 1, 1), 32));
        E.test("Promise 3: NONE if none does", x -> {
            E.refused("blend(0, 3, 0, 0)", y -> y.blend(0, 3, 0, 0), NONE);
            E.leavesAll("blend(4, 9, 262143, 0)", Edges.RICH, y -> y.blend(4, 9, WHITE, 0), NONE);
        });
        E.test("Promise 3: NONE for set colours, whatever is shown", x -> {
            x.setColour(3, 9);
            x.addRange(3, 4, 1, 0);
            x.pass(1);
            E.due("as they are set", x.blend(3, 4, 9, 0), NONE);
            E.due("as they are shown", x.blend(3, 4, 0, 9), 2);
        });
        E.test("Promise 3: this is a change", x -> {
            E.recorded("blend when new", Edges.NEW, y -> y.blend(0, 31, 9, 9), 32);
            E.recorded("blend when rich", Edges.RICH, y -> y.blend(0, 31, WHITE, 0), 31);
        });
    }

    private static void freeze() {
        E.test("Promise 4: 0 if no place gets another set colour, and a change all the same", x -> {
            E.recorded("freeze when new", Edges.NEW, PaletteTurns::freeze, 0);
            E.due("freeze again", x.freeze() + x.freeze(), 0);
            E.due("states", x.total(8), 2);
        });
        E.test("Promise 4: this is a change", x ->
            E.recorded("freeze when rich", Edges.RICH, PaletteTurns::freeze, 9));
        E.test("Promise 4: how many places get another set colour, all", x -> {
            x.blend(0, 31, 0, 62);
            x.addRange(0, 31, 1, 0);
            x.pass(1);
            E.due("freeze()", x.freeze(), 32);
            E.due("colour(0)", x.colour(0), 62);
            E.due("colour(31)", x.colour(31), 60);
        });
        E.test("Promise 4: how many places get another set colour, but one", x -> {
            x.setColour(4, 9);
            x.setColour(5, 9);
            x.addRange(4, 6, 1, 0);
            x.pass(1);
            E.due("the place 5 keeps its colour", x.freeze(), 2);
        });
    }

    /** 6 ranges and 4 glows, none of them without ticks or without steps; range 5 pauses. */
    private static void full(PaletteTurns x) {
        x.blend(0, 31, 0, 62);
        for (int range = 0; range < 6; range++) {
            x.addRange(5 * range, 5 * range + 3, 4, range % 3);
        }
        for (int glow = 0; glow < 4; glow++) {
            x.addGlow(5 * glow, 63, 20);
        }
        x.pass(6);
        x.run(5, false);
    }

    private static void freezeTurns() {
        E.test("Promise 4: the steps of all ranges are 0 then, of 6", x -> {
            full(x);
            x.freeze();
            for (int range = 0; range < 6; range++) {
                E.due("range(" + range + ", 6)", x.range(range, 6), 0);
                E.due("range(" + range + ", 7)", x.range(range, 7), 0);
            }
        });
        E.test("Promise 4: the ticks of all ranges are 0 then, of 6", x -> {
            full(x);
            x.freeze();
            for (int range = 0; range < 6; range++) {
                E.due("range(" + range + ", 5)", x.range(range, 5), 0);
            }
        });
        E.test("Promise 4: the ticks of all glows are 0 then, of 4", x -> {
            full(x);
            x.freeze();
            for (int glow = 0; glow < 4; glow++) {
                E.due("glow(" + glow + ", 3)", x.glow(glow, 3), 0);
            }
        });
        E.test("Promise 4: the colours that are shown are the set colours", x -> {
            full(x);
            int[] shown = new int[32];
            for (int place = 0; place < 32; place++) {
                shown[place] = x.shown(place);
            }
            x.freeze();
            for (int place = 0; place < 32; place++) {
                E.due("colour(" + place + ")", x.colour(place), shown[place]);
                E.due("shown(" + place + ")", x.shown(place), shown[place]);
            }
        });
        E.test("Promise 4: a range that pauses still pauses, and its speed and way stay", x -> {
            full(x);
            x.freeze();
            E.due("runs", x.range(5, 4), 0);
            E.due("the others", x.total(1), 5);
            E.due("speed", x.range(5, 2), 4);
            E.due("way", x.range(5, 3), 2);
            E.due("ticks so far", x.total(3), 6);
            E.due("steps so far", x.total(4), 6);
        });
    }

    private static void colour() {
        E.test("Promise 20: place 0 to 31", x -> {
            x.blend(0, 31, 1, 63);
            E.due("colour(0)", x.colour(0), 1);
            E.due("colour(31)", x.colour(31), 63);
            E.outside(0, 31, "place", Edges.RICH, PaletteTurns::colour, UNKNOWN);
        });
        E.test("Promise 20: the set colour, not the one that is shown", x -> {
            x.setColour(0, 5);
            x.addRange(0, 1, 1, 0);
            x.addGlow(1, 63, 1);
            x.pass(1);
            E.due("colour(0)", x.colour(0), 5);
            E.due("colour(1)", x.colour(1), 0);
        });
        E.test("Promise 20: nothing changes", x ->
            E.leavesAll("colour(13)", Edges.RICH, y -> y.colour(13), 777));
    }

    private static void shown() {
        E.test("Promise 21: place 0 to 31", x -> {
            x.blend(0, 31, 1, 63);
            E.due("shown(0)", x.shown(0), 1);
            E.due("shown(31)", x.shown(31), 63);
            E.outside(0, 31, "place", Edges.RICH, PaletteTurns::shown, UNKNOWN);
        });
        E.test("Promise 21: nothing changes", x ->
            E.leavesAll("shown(20)", Edges.RICH, y -> y.shown(20), 63));
    }
}
