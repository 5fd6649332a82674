/** Promises 1 to 4, 20 and 21: a new object, setColour, blend, freeze, colour, shown. */
final class ColoursTest {
    private static final Checks C = new Checks("ColoursTest");

    public static void main(String[] args) {
        newObject();
        setColour();
        blend();
        blendWrong();
        freeze();
        colourAndShown();
        C.end();
    }

    private static void newObject() {
        PaletteTurns x = new PaletteTurns();
        for (int place = 0; place < 32; place++) {
            C.due("colour(" + place + ") when new", x.colour(place), 0);
            C.due("shown(" + place + ") when new", x.shown(place), 0);
        }
        for (int pixel = 0; pixel < 64; pixel++) {
            C.due("pixel when new", x.pixel(pixel / 8, pixel % 8, false), 0);
        }
        int[] totals = {0, 0, 0, 0, 0, 0, 1, 0, 0, 0};
        for (int what = 0; what < 10; what++) {
            C.due("total(" + what + ") when new", x.total(what), totals[what]);
        }
        C.due("fullTurn when new", x.fullTurn(), 1);
        C.due("pictureBack when new", x.pictureBack(), 1);
        C.due("contrast when new", x.contrast(), 0);
        C.due("undo when new", x.undo(), PaletteTurns.NONE);
        C.due("restore when new", x.restore(), PaletteTurns.NONE);
        C.due("perform when new", x.perform(), -100);
    }

    private static void setColour() {
        PaletteTurns x = new PaletteTurns();
        C.due("set 0", x.setColour(0, 262143), 0);
        C.due("set 0 again gives the earlier colour", x.setColour(0, 5), 262143);
        C.due("set 31", x.setColour(31, 1), 0);
        C.due("set as it is", x.setColour(31, 1), PaletteTurns.NONE);
        C.due("states", x.total(8), 3);
        C.due("place -1", x.setColour(-1, 1), PaletteTurns.UNKNOWN);
        C.due("place 32", x.setColour(32, 1), PaletteTurns.UNKNOWN);
        C.due("place before colour", x.setColour(32, -1), PaletteTurns.UNKNOWN);
        C.due("colour -1", x.setColour(0, -1), PaletteTurns.OUT_OF_RANGE);
        C.due("colour 262144", x.setColour(0, 262144), PaletteTurns.OUT_OF_RANGE);
        C.due("extremes", x.setColour(Integer.MIN_VALUE, Integer.MAX_VALUE), PaletteTurns.UNKNOWN);
        C.due("colour extreme", x.setColour(3, Integer.MIN_VALUE), PaletteTurns.OUT_OF_RANGE);
        C.due("states after errors", x.total(8), 3);
        C.due("colour 0", x.colour(0), 5);
        C.due("colour 31", x.colour(31), 1);
        C.due("colour 30", x.colour(30), 0);
    }

    private static void blend() {
        PaletteTurns x = new PaletteTurns();
        C.due("blend of four", x.blend(2, 5, Checks.rgb(0, 10, 63), Checks.rgb(10, 0, 0)), 4);
        C.due("blended 2", x.colour(2), Checks.rgb(0, 10, 63));
        C.due("blended 3", x.colour(3), Checks.rgb(3, 7, 42));
        C.due("blended 4", x.colour(4), Checks.rgb(6, 4, 21));
        C.due("blended 5", x.colour(5), Checks.rgb(10, 0, 0));
        C.due("before", x.colour(1), 0);
        C.due("behind", x.colour(6), 0);
        C.due("same blend", x.blend(2, 5, Checks.rgb(0, 10, 63), Checks.rgb(10, 0, 0)), PaletteTurns.NONE);
        C.due("states", x.total(8), 1);
        C.due("one differs", x.blend(5, 6, Checks.rgb(10, 0, 0), 7), 1);
        C.due("whole palette", x.blend(0, 31, 1, 1), 32);
        C.due("whole palette again", x.blend(0, 31, 1, 1), PaletteTurns.NONE);
        C.due("the last two", x.blend(30, 31, 1, 2), 1);
        C.due("colour 31", x.colour(31), 2);
    }

    private static void blendWrong() {
        PaletteTurns x = new PaletteTurns();
        C.due("first -1", x.blend(-1, 3, 1, 1), PaletteTurns.UNKNOWN);
        C.due("first 32", x.blend(32, 33, -1, 1), PaletteTurns.UNKNOWN);
        C.due("last = first", x.blend(3, 3, 1, 1), PaletteTurns.OUT_OF_RANGE);
        C.due("last < first", x.blend(3, 2, 1, 1), PaletteTurns.OUT_OF_RANGE);
        C.due("last 32", x.blend(31, 32, 1, 1), PaletteTurns.OUT_OF_RANGE);
        C.due("last huge", x.blend(0, Integer.MAX_VALUE, 1, 1), PaletteTurns.OUT_OF_RANGE);
        C.due("from -1", x.blend(0, 1, -1, 1), PaletteTurns.OUT_OF_RANGE);
        C.due("from 262144", x.blend(0, 1, 262144, 1), PaletteTurns.OUT_OF_RANGE);
        C.due("to -1", x.blend(0, 1, 1, -1), PaletteTurns.OUT_OF_RANGE);
        C.due("to 262144", x.blend(0, 1, 1, 262144), PaletteTurns.OUT_OF_RANGE);
        C.due("nothing set", x.colour(0) + x.colour(1), 0);
        C.due("no state", x.total(8), 0);
    }

    private static void freeze() {
        PaletteTurns x = new PaletteTurns();
        C.due("freeze when new", x.freeze(), 0);
        C.due("it is a change all the same", x.total(8), 1);
        x.setColour(0, 10);
        x.setColour(1, 20);
        x.setColour(2, 20);
        x.addRange(0, 2, 2, 0);
        x.addGlow(9, 63, 4);
        x.pass(3);
        C.due("shown 0", x.shown(0), 20);
        C.due("shown 1", x.shown(1), 10);
        C.due("shown 9", x.shown(9), 47);
        C.due("freeze", x.freeze(), 3);
        C.due("colour 0", x.colour(0), 20);
        C.due("colour 1", x.colour(1), 10);
        C.due("colour 2", x.colour(2), 20);
        C.due("colour 9", x.colour(9), 47);
        C.due("ticks of the range", x.range(0, 5), 0);
        C.due("steps of the range", x.range(0, 6), 0);
        C.due("ticks of the glow", x.glow(0, 3), 0);
        C.due("shown as it was", x.shown(9), 47);
        C.due("ticks so far stay", x.total(3), 3);
        C.due("steps so far stay", x.total(4), 1);
        C.due("frozen again", x.freeze(), 0);
        x.run(0, false);
        Checks.perform(x, "k0");
        C.due("a range that pauses is frozen, too", x.freeze(), 2);
        C.due("its steps", x.range(0, 6), 0);
        C.due("it still pauses", x.range(0, 4), 0);
    }

    private static void colourAndShown() {
        PaletteTurns x = new PaletteTurns();
        x.setColour(0, 7);
        x.setColour(31, 9);
        C.due("colour 0", x.colour(0), 7);
        C.due("colour 31", x.colour(31), 9);
        x.addRange(0, 31, 1, 0);
        x.pass(1);
        C.due("colour 0 stays", x.colour(0), 7);
        C.due("shown 0", x.shown(0), 9);
        C.due("shown 1", x.shown(1), 7);
        C.due("shown 31", x.shown(31), 0);
        for (int wrong : new int[] {-1, 32, Integer.MIN_VALUE, Integer.MAX_VALUE}) {
            C.due("colour of no place", x.colour(wrong), PaletteTurns.UNKNOWN);
            C.due("shown of no place", x.shown(wrong), PaletteTurns.UNKNOWN);
        }
    }
}
