/** Promises 25 to 31: total, shownIn, fullTurn, nearest, changes, pictureBack, contrast. */
final class QuestionsTest {
    private static final Checks C = new Checks("QuestionsTest");

    public static void main(String[] args) {
        total();
        shownIn();
        fullTurn();
        greatestFullTurn();
        nearest();
        changes();
        pictureBack();
        contrast();
        C.end();
    }

    private static void total() {
        PaletteTurns x = new PaletteTurns();
        C.due("what -1", x.total(-1), PaletteTurns.OUT_OF_RANGE);
        C.due("what 10", x.total(10), PaletteTurns.OUT_OF_RANGE);
        C.due("what huge", x.total(Integer.MAX_VALUE), PaletteTurns.OUT_OF_RANGE);
        x.blend(0, 2, 1, 3);
        x.addRange(0, 2, 2, 0);
        x.addRange(10, 14, 3, 0);
        x.addGlow(2, 63, 2);
        x.addGlow(20, 0, 1);
        x.fill(0, 0, 30);
        x.paint(0, 0, 0);
        x.paint(0, 1, 2);
        x.paint(0, 2, 11);
        x.paint(0, 3, 20);
        x.paint(0, 4, 1);
        x.type('t');
        C.due("ranges", x.total(0), 2);
        C.due("running", x.total(1), 2);
        C.due("glows", x.total(2), 2);
        C.due("places in ranges", x.total(5), 8);
        C.due("colours", x.total(6), 4);
        C.due("moving pixels", x.total(7), 5);
        C.due("text", x.total(9), 1);
        x.run(0, false);
        C.due("running", x.total(1), 1);
        C.due("places in ranges that pause count", x.total(5), 8);
        C.due("pixels of a range that pauses do not, but for a glow", x.total(7), 3);
        x.run(1, false);
        C.due("moving pixels", x.total(7), 2);
        x.removeRange(1);
        C.due("places in ranges", x.total(5), 3);
        x.setColour(30, 2);
        C.due("colours that are the same count once", x.total(6), 4);
        C.due("states", x.total(8), 4);
        differentColours();
    }

    private static void differentColours() {
        PaletteTurns x = new PaletteTurns();
        x.setColour(1, 5);
        x.paint(0, 0, 1);
        C.due("two places, two colours", x.total(6), 2);
        x.setColour(0, 5);
        C.due("two places, one colour", x.total(6), 1);
        x.setColour(2, 9);
        C.due("a place that is not in the picture", x.total(6), 1);
        x.fill(0, 1, 2);
        C.due("none but places of the picture", x.total(6), 2);
        x.paint(0, 0, 2);
        C.due("a place that is no longer there", x.total(6), 1);
        x.paint(0, 0, 1);
        x.addGlow(2, 5, 1);
        x.pass(1);
        C.due("what is shown counts", x.total(6), 1);
    }

    private static void shownIn() {
        PaletteTurns x = new PaletteTurns();
        x.blend(0, 3, 1, 4);
        x.addRange(0, 3, 5, 0);
        x.addGlow(3, 63, 7);
        x.pass(3);
        C.due("place -1", x.shownIn(-1, 0), PaletteTurns.UNKNOWN);
        C.due("place 32", x.shownIn(32, -1), PaletteTurns.UNKNOWN);
        C.due("ticks -1", x.shownIn(0, -1), PaletteTurns.OUT_OF_RANGE);
        C.due("ticks 1001", x.shownIn(0, 1001), PaletteTurns.OUT_OF_RANGE);
        C.due("now", x.shownIn(0, 0), 1);
        C.due("in one", x.shownIn(0, 1), 1);
        C.due("in two", x.shownIn(0, 2), 4);
        C.due("in 1000", x.shownIn(0, 1000), 1);
        C.due("the glow in two", x.shownIn(3, 2), 3 + 60 * 5 / 7);
        C.due("the glow in 1000", x.shownIn(3, 1000), 4 + 59 * 5 / 7);
        C.due("a place at rest", x.shownIn(31, 1000), 0);
        C.due("nothing has passed", x.total(3), 3);
        C.due("no state", x.total(8), 4);
        x.run(0, false);
        C.due("a range that pauses stays", x.shownIn(0, 1000), 1);
        C.due("ticks stay", x.range(0, 5), 3);
    }

    private static void fullTurn() {
        PaletteTurns x = new PaletteTurns();
        x.addRange(0, 4, 3, 0);
        C.due("up", x.fullTurn(), 15);
        x.setSpeed(0, 3, 1);
        C.due("down", x.fullTurn(), 15);
        x.setSpeed(0, 3, 2);
        C.due("to and fro", x.fullTurn(), 24);
        Checks.perform(x, "t12");
        C.due("from the end, too", x.fullTurn(), 24);
        x.addRange(5, 6, 7, 2);
        C.due("with one of two places", x.fullTurn(), 168);
        x.run(0, false);
        C.due("one that pauses does not count", x.fullTurn(), 14);
        x.addGlow(0, 5, 10);
        C.due("with a glow", x.fullTurn(), 140);
        x.removeRange(1);
        C.due("a glow", x.fullTurn(), 20);
        x.removeGlow(0);
        C.due("all at rest", x.fullTurn(), 1);
        x.addGlow(0, 0, 1);
        C.due("ticks of a glow count even if nothing is to be seen", x.fullTurn(), 2);
    }

    /** More than an int holds. */
    private static void greatestFullTurn() {
        PaletteTurns x = new PaletteTurns();
        int[] lasts = {3, 8, 13, 18, 23, 30};
        int[] speeds = {29, 23, 19, 17, 13, 11};
        int first = 0;
        long due = 1;
        for (int i = 0; i < 6; i++) {
            x.addRange(first, lasts[i], speeds[i], 2);
            due *= speeds[i];
            first = lasts[i] + 1;
        }
        int[] lengths = {16, 27, 25, 7};
        for (int i = 0; i < 4; i++) {
            x.addGlow(i, 1, lengths[i]);
            due *= lengths[i];
        }
        // places 4, 5, 5, 5, 5, 7: to and fro takes 6, 8, 8, 8, 8, 12 steps, and these divide 2 * 16 * 27
        C.due("great full turn", x.fullTurn(), due * 2);
    }

    private static void nearest() {
        PaletteTurns x = new PaletteTurns();
        C.due("all alike", x.nearest(262143), 0);
        x.setColour(5, Checks.rgb(10, 10, 10));
        x.setColour(6, Checks.rgb(12, 10, 10));
        C.due("colour -1", x.nearest(-1), PaletteTurns.OUT_OF_RANGE);
        C.due("colour 262144", x.nearest(262144), PaletteTurns.OUT_OF_RANGE);
        C.due("nearest", x.nearest(Checks.rgb(63, 63, 63)), 6);
        C.due("as near: the lesser number", x.nearest(Checks.rgb(11, 10, 10)), 5);
        C.due("0", x.nearest(0), 0);
        x.setColour(7, Checks.rgb(0, 0, 20));
        C.due("by squares", x.nearest(Checks.rgb(0, 0, 12)), 7);
        x.addRange(5, 7, 1, 0);
        x.pass(1);
        C.due("by what is shown", x.nearest(Checks.rgb(0, 0, 20)), 5);
        x.setColour(31, 262143);
        C.due("the last place", x.nearest(262143), 31);
    }

    private static void changes() {
        PaletteTurns x = new PaletteTurns();
        x.setColour(1, 5);
        x.addRange(1, 3, 2, 0);
        x.fill(0, 0, 3);
        x.paint(0, 0, 1);
        x.paint(0, 1, 2);
        x.paint(0, 2, 9);
        C.due("ticks -1", x.changes(-1), PaletteTurns.OUT_OF_RANGE);
        C.due("ticks 1001", x.changes(1001), PaletteTurns.OUT_OF_RANGE);
        C.due("now", x.changes(0), 0);
        C.due("in one", x.changes(1), 0);
        C.due("in two", x.changes(2), 2);
        C.due("in four", x.changes(4), 62);
        C.due("in six", x.changes(6), 0);
        C.due("in 1000", x.changes(1000), 62);
        C.due("nothing has passed", x.total(3), 0);
        x.fill(0, 3, 0);
        x.addGlow(0, 63, 1);
        C.due("the place 0", x.changes(1), 61);
    }

    private static void pictureBack() {
        PaletteTurns x = new PaletteTurns();
        x.setColour(0, 7);
        x.addRange(0, 6, 30, 0);
        C.due("at once while no step is made", x.pictureBack(), 1);
        x.pass(29);
        C.due("after a whole turn", x.pictureBack(), 181);
        x.undo();
        x.setSpeed(0, 1, 0);
        C.due("seven steps", x.pictureBack(), 7);
        x.run(0, false);
        C.due("at rest", x.pictureBack(), 1);
        PaletteTurns alike = new PaletteTurns();
        alike.blend(0, 1, 7, 7);
        alike.addRange(0, 3, 1, 0);
        C.due("place 0 alone is in the picture, and shows the colour of place 1 then", alike.pictureBack(), 3);
        alike.paint(0, 0, 1);
        C.due("two places", alike.pictureBack(), 4);
        C.due("nothing has passed", alike.total(3), 0);
        latestBack();
    }

    private static void latestBack() {
        PaletteTurns x = allPlaces();
        x.addRange(0, 8, 3, 0);
        x.addRange(9, 16, 2, 1);
        x.addRange(17, 27, 1, 2);
        C.due("after 2000", x.pictureBack(), 2000);
        PaletteTurns late = allPlaces();
        late.addRange(0, 6, 2, 0);
        late.addRange(7, 19, 2, 1);
        late.addRange(20, 30, 2, 0);
        late.pass(13);
        C.due("2001 is too late", late.pictureBack(), PaletteTurns.NONE);
        late.pass(2);
        C.due("the same two ticks later", late.pictureBack(), PaletteTurns.NONE);
        late.pass(1);
        C.due("at once", late.pictureBack(), 1);
    }

    /** A palette of 32 colours, all of them in the picture. */
    private static PaletteTurns allPlaces() {
        PaletteTurns x = new PaletteTurns();
        for (int place = 0; place < 32; place++) {
            x.setColour(place, place + 1);
            x.paint(place / 8, place % 8, place);
        }
        return x;
    }

    private static void contrast() {
        PaletteTurns x = new PaletteTurns();
        x.setColour(1, 262143);
        x.setColour(2, Checks.rgb(3, 0, 4));
        x.setColour(3, Checks.rgb(0, 2, 0));
        C.due("no difference", x.contrast(), 0);
        x.paint(7, 7, 2);
        C.due("with the one above and beside", x.contrast(), 25);
        x.fill(0, 0, 2);
        C.due("none", x.contrast(), 0);
        x.paint(0, 7, 1);
        x.undo();
        x.paint(0, 7, 3);
        x.paint(1, 0, 0);
        C.due("rows do not go on at the edge", x.contrast(), 29);
        x.paint(1, 0, 1);
        C.due("greatest", x.contrast(), 60 * 60 + 63 * 63 + 59 * 59);
        PaletteTurns beside = new PaletteTurns();
        PaletteTurns below = new PaletteTurns();
        for (int i = 0; i < 8; i++) {
            beside.paint(i, 7, 1);
            below.paint(7, i, 1);
        }
        beside.setColour(1, 3);
        below.setColour(1, 5);
        C.due("side by side alone", beside.contrast(), 9);
        C.due("above or below alone", below.contrast(), 25);
        PaletteTurns corner = new PaletteTurns();
        corner.setColour(1, 1);
        corner.setColour(2, 2);
        corner.paint(3, 3, 1);
        corner.paint(4, 4, 1);
        corner.paint(3, 4, 1);
        corner.paint(4, 3, 2);
        C.due("a corner is not beside", corner.contrast(), 4);
        corner.paint(4, 3, 0);
        C.due("side by side", corner.contrast(), 1);
        corner.addGlow(1, 63, 1);
        corner.pass(1);
        C.due("of what is shown", corner.contrast(), 63 * 63);
        PaletteTurns edge = new PaletteTurns();
        edge.setColour(1, 262143);
        edge.paint(0, 0, 1);
        C.due("black and white", edge.contrast(), 3 * 63 * 63);
    }
}
