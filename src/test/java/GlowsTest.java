/** Promises 9, 10 and 23: addGlow, removeGlow, glow. */
final class GlowsTest {
    private static final Checks C = new Checks("GlowsTest");

    public static void main(String[] args) {
        addGlow();
        removeGlow();
        allFour();
        glow();
        comesAndGoes();
        withinRange();
        C.end();
    }

    private static void addGlow() {
        PaletteTurns x = new PaletteTurns();
        C.due("place -1", x.addGlow(-1, 0, 1), PaletteTurns.UNKNOWN);
        C.due("place 32", x.addGlow(32, -1, 0), PaletteTurns.UNKNOWN);
        C.due("colour -1", x.addGlow(0, -1, 1), PaletteTurns.OUT_OF_RANGE);
        C.due("colour 262144", x.addGlow(0, 262144, 1), PaletteTurns.OUT_OF_RANGE);
        C.due("length 0", x.addGlow(0, 0, 0), PaletteTurns.OUT_OF_RANGE);
        C.due("length 31", x.addGlow(0, 0, 31), PaletteTurns.OUT_OF_RANGE);
        C.due("nothing yet", x.total(2) + x.total(8), 0);
        C.due("first", x.addGlow(0, 262143, 30), 0);
        C.due("second", x.addGlow(31, 0, 1), 1);
        C.due("place taken", x.addGlow(31, 5, 1), PaletteTurns.NOT_POSSIBLE);
        C.due("third", x.addGlow(1, 5, 1), 2);
        C.due("fourth", x.addGlow(2, 5, 1), 3);
        C.due("no room", x.addGlow(3, 5, 1), PaletteTurns.FULL);
        C.due("taken before no room", x.addGlow(2, 5, 1), PaletteTurns.NOT_POSSIBLE);
        C.due("out of range before taken", x.addGlow(2, 5, 31), PaletteTurns.OUT_OF_RANGE);
        C.due("glows", x.total(2), 4);
        C.due("states", x.total(8), 4);
    }

    private static void removeGlow() {
        PaletteTurns x = new PaletteTurns();
        C.due("none there", x.removeGlow(0), PaletteTurns.UNKNOWN);
        x.addGlow(5, 63, 3);
        x.addGlow(6, 62, 4);
        x.addGlow(7, 61, 5);
        x.pass(3);
        C.due("number -1", x.removeGlow(-1), PaletteTurns.UNKNOWN);
        C.due("number 3", x.removeGlow(3), PaletteTurns.UNKNOWN);
        C.due("remove the first one", x.removeGlow(0), 2);
        C.due("0 is the second one now", x.glow(0, 0), 6);
        C.due("1 is the third one now", x.glow(1, 0), 7);
        C.due("with its ticks", x.glow(1, 3), 3);
        C.due("2 is gone", x.glow(2, 0), PaletteTurns.UNKNOWN);
        C.due("the place shows its colour", x.shown(5), 0);
        C.due("a new one begins anew", x.addGlow(5, 1, 2), 2);
        C.due("ticks", x.glow(2, 3), 0);
        x.undo();
        C.due("undo the removal", x.undo(), 2);
        C.due("it is there again", x.glow(0, 0), 5);
        C.due("with its ticks", x.glow(0, 3), 3);
        C.due("and shows", x.shown(5), 63);
    }

    private static void allFour() {
        PaletteTurns x = new PaletteTurns();
        for (int i = 0; i < 4; i++) {
            x.addGlow(i, 63, 5 + i);
        }
        x.pass(6);
        C.due("ticks of the last one", x.glow(3, 3), 6);
        C.due("keep", x.keep(), 0);
        C.due("remove the first one", x.removeGlow(0), 3);
        C.due("2 is the last one now", x.glow(2, 2), 8);
        C.due("add one", x.addGlow(9, 1, 2), 3);
        C.due("the one ahead of it stays", x.glow(2, 2), 8);
        C.due("freeze", x.freeze(), 3);
        C.due("ticks", x.glow(2, 3), 0);
        C.due("full turn", x.fullTurn(), 336);
        C.due("restore", x.restore(), 0);
        C.due("the first one", x.glow(0, 2), 5);
        C.due("the last one", x.glow(3, 3), 6);
        C.due("remove the last one", x.removeGlow(3), 3);
    }

    private static void glow() {
        PaletteTurns x = new PaletteTurns();
        C.due("no glow", x.glow(0, 99), PaletteTurns.UNKNOWN);
        x.addGlow(9, 777, 6);
        x.pass(8);
        int[] due = {9, 777, 6, 8, 4};
        for (int what = 0; what < due.length; what++) {
            C.due("glow(0, " + what + ")", x.glow(0, what), due[what]);
        }
        C.due("what 5", x.glow(0, 5), PaletteTurns.OUT_OF_RANGE);
        C.due("what -1", x.glow(0, -1), PaletteTurns.OUT_OF_RANGE);
        C.due("glow -1", x.glow(-1, 0), PaletteTurns.UNKNOWN);
        C.due("glow 1", x.glow(1, 0), PaletteTurns.UNKNOWN);
    }

    private static void comesAndGoes() {
        PaletteTurns x = new PaletteTurns();
        x.setColour(4, Checks.rgb(63, 0, 10));
        x.addGlow(4, Checks.rgb(0, 63, 11), 4);
        int[] strengths = {0, 1, 2, 3, 4, 3, 2, 1, 0, 1};
        int[] red = {63, 48, 32, 16, 0};
        int[] green = {0, 15, 31, 47, 63};
        int[] blue = {10, 10, 10, 10, 11};
        for (int tick = 0; tick < strengths.length; tick++) {
            int w = strengths[tick];
            C.due("strength at " + tick, x.glow(0, 4), w);
            C.due("ticks at " + tick, x.glow(0, 3), tick % 8);
            C.due("shown at " + tick, x.shown(4), Checks.rgb(red[w], green[w], blue[w]));
            x.pass(1);
        }
        C.due("the set colour stays", x.colour(4), Checks.rgb(63, 0, 10));
    }

    private static void withinRange() {
        PaletteTurns x = new PaletteTurns();
        x.setColour(2, 40);
        x.setColour(3, 20);
        x.addRange(2, 3, 2, 0);
        x.addGlow(2, 0, 4);
        x.pass(2);
        C.due("the glow goes from the colour that is turned there", x.shown(2), 10);
        C.due("beside it", x.shown(3), 40);
        x.run(0, false);
        x.pass(2);
        C.due("the glow goes on while the range pauses", x.shown(2), 0);
        C.due("turn", x.range(0, 7), 1);
    }
}
