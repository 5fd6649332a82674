/** Promises 17 to 19: undo, keep, restore. */
final class HistoryTest {
    private static final Checks C = new Checks("HistoryTest");

    public static void main(String[] args) {
        undo();
        undoTakesAllBack();
        keepAndRestore();
        snapshotOfEverything();
        C.end();
    }

    private static void undo() {
        PaletteTurns x = new PaletteTurns();
        C.due("nothing yet", x.undo(), PaletteTurns.NONE);
        for (int colour = 1; colour <= 6; colour++) {
            x.setColour(0, colour);
        }
        C.due("four states at most", x.total(8), 4);
        C.due("undo", x.undo(), 3);
        C.due("the latest one", x.colour(0), 5);
        C.due("undo", x.undo(), 2);
        x.setColour(0, 40);
        C.due("a change adds one", x.total(8), 3);
        C.due("undo", x.undo(), 2);
        C.due("colour", x.colour(0), 4);
        C.due("undo", x.undo(), 1);
        C.due("undo", x.undo(), 0);
        C.due("the oldest ones were dropped", x.colour(0), 2);
        C.due("no more", x.undo(), PaletteTurns.NONE);
        C.due("no change", x.colour(0), 2);
    }

    private static void undoTakesAllBack() {
        PaletteTurns x = new PaletteTurns();
        x.addRange(0, 3, 2, 1);
        x.addGlow(5, 60, 3);
        x.pass(3);
        x.run(0, false);
        x.undo();
        C.due("it runs again", x.range(0, 4), 1);
        x.freeze();
        x.undo();
        C.due("ticks of the range", x.range(0, 5), 1);
        C.due("steps of the range", x.range(0, 6), 1);
        C.due("ticks of the glow", x.glow(0, 3), 3);
        C.due("set colour", x.colour(5), 0);
        x.setSpeed(0, 9, 0);
        x.undo();
        C.due("speed", x.range(0, 2), 2);
        C.due("way", x.range(0, 3), 1);
        x.blend(0, 31, 5, 9);
        x.undo();
        C.due("colours", x.colour(31), 0);
        x.fill(0, 0, 8);
        x.undo();
        C.due("pixels", x.pixel(4, 4, false), 0);
        x.undo();
        C.due("ticks so far", x.total(3), 0);
        C.due("steps so far", x.total(4), 0);
        x.undo();
        C.due("glows", x.total(2), 0);
        x.undo();
        C.due("ranges", x.total(0), 0);
    }

    private static void keepAndRestore() {
        PaletteTurns x = new PaletteTurns();
        C.due("no snapshot", x.restore(), PaletteTurns.NONE);
        C.due("no state", x.total(8), 0);
        x.addRange(0, 3, 2, 1);
        C.due("keep", x.keep(), 1);
        C.due("keep is no change", x.total(8), 1);
        x.addRange(4, 5, 1, 0);
        x.pass(5);
        C.due("restore", x.restore(), 1);
        C.due("restore is a change", x.total(8), 4);
        C.due("ticks so far", x.total(3), 0);
        C.due("ticks of the range", x.range(0, 5), 0);
        C.due("undo of restore", x.undo(), 3);
        C.due("ranges", x.total(0), 2);
        C.due("ticks so far", x.total(3), 5);
        C.due("it stays", x.restore(), 1);
        C.due("again", x.restore(), 1);
        C.due("a change each time", x.total(8), 4);
        x.addRange(4, 5, 1, 0);
        C.due("keep in place of the earlier one", x.keep(), 2);
        x.removeRange(0);
        x.undo();
        x.undo();
        C.due("undo leaves the snapshot", x.restore(), 2);
    }

    private static void snapshotOfEverything() {
        PaletteTurns x = new PaletteTurns();
        C.due("keep when new", x.keep(), 0);
        x.setColour(1, 2);
        x.addGlow(1, 9, 2);
        x.addRange(1, 2, 1, 2);
        Checks.perform(x, "t5p0k0");
        x.paint(1, 1, 1);
        int text = x.total(9);
        int states = x.total(8);
        C.due("restore the new one", x.restore(), 0);
        C.due("colour", x.colour(1), 0);
        C.due("glows", x.total(2), 0);
        C.due("ticks", x.total(3), 0);
        C.due("steps", x.total(4), 0);
        C.due("pixel", x.pixel(1, 1, false), 0);
        C.due("the text stays", x.total(9), text);
        C.due("the history stays", x.total(8), states);
        x.undo();
        C.due("colour", x.colour(1), 2);
        C.due("glow", x.glow(0, 3), 1);
        C.due("range", x.range(0, 6), 6);
        C.due("pauses", x.range(0, 4), 0);
        C.due("pixel", x.pixel(1, 1, false), 1);
    }
}
