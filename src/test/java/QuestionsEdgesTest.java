/** Boundary cases of promises 25 to 31: total, shownIn, fullTurn, nearest, changes, pictureBack, contrast. */
final class QuestionsEdgesTest {
    private static final Edges E = new Edges("QuestionsEdgesTest");
    private static final int UNKNOWN = PaletteTurns.UNKNOWN;
    private static final int OUT_OF_RANGE = PaletteTurns.OUT_OF_RANGE;
    private static final int NONE = PaletteTurns.NONE;
    private static final int WHITE = 262143;

    public static void main(String[] args) {
        total();
        totalOfRangesAndGlows();
        totalOfTime();
        totalOfPicture();
        totalOfMovingPixels();
        shownIn();
        shownInWrap();
        fullTurn();
        fullTurnOfMany();
        nearest();
        nearestOfMany();
        changes();
        changesCount();
        pictureBack();
        pictureBackLate();
        contrast();
        contrastNeighbours();
        E.end();
    }

    /** A palette of 32 colours, all of them in the picture. */
    private static void allPlaces(PaletteTurns x) {
        x.blend(0, 31, 1, 63);
        for (int place = 0; place < 32; place++) {
            x.paint(place / 8, place % 8, place);
        }
    }

    // ---- promise 25

    private static void total() {
        E.test("Promise 25: what 0 to 9", x -> {
            E.due("total(0)", x.total(0), 0);
            E.due("total(9)", x.total(9), 0);
            E.outside(0, 9, "what", Edges.NEW, PaletteTurns::total, OUT_OF_RANGE);
            E.outside(0, 9, "what", Edges.RICH, PaletteTurns::total, OUT_OF_RANGE);
        });
        int[] due = {2, 1, 2, 9, 4, 9, 2, 64, 4, 6};
        for (int number = 0; number < 10; number++) {
            int what = number;
            E.test("Promise 25: total(" + what + "), and nothing changes", x ->
                E.leavesAll("when rich", Edges.RICH, y -> y.total(what), due[what]));
        }
        E.test("Promise 25: 8 for the states in the history, 0 to 4", x -> {
            for (int states = 0; states <= 5; states++) {
                E.due("total(8)", x.total(8), Math.min(4, states));
                x.setColour(0, states + 1);
            }
        });
        E.test("Promise 25: 9 for the length of the text, 0 to 60", x -> {
            for (int length = 0; length <= 61; length++) {
                E.due("total(9)", x.total(9), Math.min(60, length));
                x.type('t');
            }
        });
    }

    private static void totalOfRangesAndGlows() {
        E.test("Promise 25: 0 for the ranges, 0 to 6", x -> {
            for (int ranges = 0; ranges <= 7; ranges++) {
                E.due("total(0)", x.total(0), Math.min(6, ranges));
                x.addRange(2 * ranges, 2 * ranges + 1, 1, 0);
            }
        });
        E.test("Promise 25: 1 for the ranges that run, all and none", x -> {
            for (int range = 0; range < 6; range++) {
                x.addRange(2 * range, 2 * range + 1, 1, 0);
            }
            E.due("all", x.total(1), 6);
            Checks.perform(x, "p0p1p2p3p4p5");
            E.due("none", x.total(1), 0);
            E.due("ranges", x.total(0), 6);
        });
        E.test("Promise 25: 1 for the ranges that run, when one that pauses is removed", x -> {
            x.addRange(0, 1, 1, 0);
            x.addRange(2, 3, 1, 0);
            x.run(1, false);
            x.removeRange(1);
            E.due("total(1)", x.total(1), 1);
        });
        E.test("Promise 25: 2 for the glows, 0 to 4", x -> {
            for (int glows = 0; glows <= 5; glows++) {
                E.due("total(2)", x.total(2), Math.min(4, glows));
                x.addGlow(glows, 1, 1);
            }
        });
        E.test("Promise 25: 5 for the places that are in a range, 0, 2 and 32", x -> {
            E.due("none", x.total(5), 0);
            x.addRange(0, 1, 1, 0);
            E.due("two", x.total(5), 2);
            x.addRange(2, 31, 1, 0);
            E.due("all", x.total(5), 32);
            x.removeRange(1);
            E.due("two again", x.total(5), 2);
        });
        E.test("Promise 25: 5 for the places that are in a range, also in one that pauses", x -> {
            x.addRange(3, 7, 1, 0);
            x.run(0, false);
            E.due("total(5)", x.total(5), 5);
        });
    }

    private static void totalOfTime() {
        E.test("Promise 25: 3 for the ticks so far, also without anything that moves", x -> {
            x.pass(1000);
            E.due("total(3)", x.total(3), 1000);
            Checks.perform(x, "t99");
            E.due("with those of perform", x.total(3), 1099);
            x.freeze();
            E.due("freeze leaves them", x.total(3), 1099);
        });
        E.test("Promise 25: 4 for the steps that ranges made so far, also those by k", x -> {
            x.addRange(0, 1, 2, 0);
            x.pass(3);
            Checks.perform(x, "k0k0");
            E.due("total(4)", x.total(4), 3);
        });
        E.test("Promise 25: 4 for the steps that ranges made so far, also those by k of one that pauses", x -> {
            x.addRange(0, 1, 2, 0);
            Checks.perform(x, "p0k0t9");
            E.due("total(4)", x.total(4), 1);
        });
        E.test("Promise 25: 4 for the steps that ranges made so far, also of those that are gone", x -> {
            x.addRange(0, 1, 1, 0);
            x.pass(3);
            x.removeRange(0);
            E.due("total(4)", x.total(4), 3);
        });
        E.test("Promise 25: 4 for the steps that ranges made so far, also if their own are 0", x -> {
            x.addRange(0, 1, 1, 0);
            x.pass(3);
            x.setSpeed(0, 1, 0);
            E.due("behind setSpeed", x.total(4), 3);
            x.pass(2);
            x.freeze();
            E.due("behind freeze", x.total(4), 5);
        });
    }

    private static void totalOfPicture() {
        E.test("Promise 25: 6 for the different colours that are shown in the picture, one", x -> {
            E.due("when new", x.total(6), 1);
            x.blend(1, 31, 1, 31);
            E.due("places that are not in the picture don't count", x.total(6), 1);
            x.fill(0, 0, 31);
            E.due("the last place alone", x.total(6), 1);
        });
        E.test("Promise 25: 6 for the different colours that are shown in the picture, all", x -> {
            allPlaces(x);
            E.due("32 colours", x.total(6), 32);
        });
        E.test("Promise 25: 6 for different colours, not for different places", x -> {
            allPlaces(x);
            x.blend(0, 31, 9, 9);
            E.due("one colour", x.total(6), 1);
            x.setColour(31, 8);
            E.due("the last place has another one", x.total(6), 2);
            x.setColour(0, 8);
            E.due("and the first one the same", x.total(6), 2);
        });
        E.test("Promise 25: 6 for colours that are shown, not for those that are set", x -> {
            x.setColour(1, 9);
            x.paint(0, 0, 1);
            x.addGlow(1, 0, 1);
            E.due("two", x.total(6), 2);
            x.pass(1);
            E.due("one", x.total(6), 1);
        });
        E.test("Promise 25: 6, the first and the last pixel count", x -> {
            x.setColour(1, 9);
            x.setColour(2, 8);
            x.paint(0, 0, 1);
            E.due("the first", x.total(6), 2);
            x.paint(7, 7, 2);
            E.due("the last", x.total(6), 3);
        });
    }

    private static void totalOfMovingPixels() {
        E.test("Promise 25: 7 for pixels whose place is in a range that runs, its first and its last place", x -> {
            x.addRange(3, 6, 30, 0);
            x.paint(0, 0, 2);
            x.paint(0, 1, 3);
            x.paint(7, 7, 6);
            E.due("total(7)", x.total(7), 2);
            x.paint(0, 2, 7);
            E.due("behind the last place", x.total(7), 2);
        });
        E.test("Promise 25: 7, none and all", x -> {
            E.due("none", x.total(7), 0);
            x.addRange(0, 1, 1, 0);
            E.due("all", x.total(7), 64);
            x.run(0, false);
            E.due("none of a range that pauses", x.total(7), 0);
        });
        E.test("Promise 25: 7, or has a glow, also within a range that pauses", x -> {
            x.addRange(0, 1, 1, 0);
            x.run(0, false);
            x.addGlow(1, 5, 1);
            x.paint(0, 0, 1);
            x.paint(5, 5, 1);
            E.due("total(7)", x.total(7), 2);
        });
        E.test("Promise 25: 7, a pixel with both counts once", x -> {
            x.addRange(0, 1, 1, 0);
            x.addGlow(0, 5, 1);
            E.due("total(7)", x.total(7), 64);
        });
        E.test("Promise 25: 7, also if no other colour is to be seen", x -> {
            x.addGlow(0, 0, 1);
            E.due("total(7)", x.total(7), 64);
        });
    }

    // ---- promise 26

    private static void shownIn() {
        E.test("Promise 26: place 0 to 31", x -> {
            x.blend(0, 31, 1, 63);
            E.due("place 0", x.shownIn(0, 5), 1);
            E.due("place 31", x.shownIn(31, 5), 63);
            E.outside(0, 31, "place", Edges.RICH, (y, place) -> y.shownIn(place, 5), UNKNOWN);
        });
        E.test("Promise 26: ticks 0 to 1000", x -> {
            x.addGlow(3, 9, 1);
            E.due("0 ticks", x.shownIn(3, 0), 0);
            E.due("1 tick", x.shownIn(3, 1), 9);
            E.due("999 ticks", x.shownIn(3, 999), 9);
            E.due("1000 ticks", x.shownIn(3, 1000), 0);
            E.outside(0, 1000, "ticks", Edges.RICH, (y, ticks) -> y.shownIn(3, ticks), OUT_OF_RANGE);
        });
        E.test("Promise 26: UNKNOWN ahead of OUT_OF_RANGE", x -> {
            E.refused("shownIn(32, 1001)", y -> y.shownIn(32, 1001), UNKNOWN);
            E.refused("shownIn(-1, -1)", y -> y.shownIn(-1, -1), UNKNOWN);
        });
        E.test("Promise 26: nothing changes", x -> {
            PaletteTurns later = Edges.made(Edges.RICH);
            later.pass(1000);
            E.leavesAll("shownIn(6, 1000)", Edges.RICH, y -> y.shownIn(6, 1000), later.shown(6));
        });
        E.test("Promise 26: as many ticks as all places need", x -> {
            for (int ticks : new int[] {1, 2, 3, 4, 15, 16, 999, 1000}) {
                PaletteTurns later = Edges.made(Edges.RICH);
                later.pass(ticks);
                PaletteTurns rich = Edges.made(Edges.RICH);
                for (int place = 0; place < 32; place++) {
                    E.due("shownIn(" + place + ", " + ticks + ")", rich.shownIn(place, ticks), later.shown(place));
                }
            }
        });
    }

    private static void shownInWrap() {
        E.test("Promise 26: the tick that makes a step, and the one ahead of it", x -> {
            x.blend(3, 4, 1, 2);
            x.addRange(3, 4, 30, 0);
            x.pass(7);
            E.due("in 22 ticks", x.shownIn(3, 22), 1);
            E.due("in 23 ticks", x.shownIn(3, 23), 2);
            E.due("in 52 ticks", x.shownIn(3, 52), 2);
            E.due("in 53 ticks", x.shownIn(3, 53), 1);
        });
        E.test("Promise 26: the ticks that end a glow", x -> {
            x.addGlow(3, 30, 30);
            x.pass(7);
            E.due("in 23 ticks", x.shownIn(3, 23), 30);
            E.due("in 24 ticks", x.shownIn(3, 24), 29);
            E.due("in 52 ticks", x.shownIn(3, 52), 1);
            E.due("in 53 ticks", x.shownIn(3, 53), 0);
            E.due("in 54 ticks", x.shownIn(3, 54), 1);
        });
        E.test("Promise 26: a range that pauses stays, and its glow goes on", x -> {
            x.blend(3, 4, 1, 2);
            x.addRange(3, 4, 3, 0);
            x.addGlow(4, 42, 2);
            x.pass(2);
            x.run(0, false);
            E.due("the range", x.shownIn(3, 1000), 1);
            E.due("the glow in 0 ticks", x.shownIn(4, 0), 42);
            E.due("the glow in 1 tick", x.shownIn(4, 1), 22);
            E.due("the glow in 2 ticks", x.shownIn(4, 2), 2);
        });
        E.test("Promise 26: to and fro, where it turns back", x -> {
            x.blend(3, 5, 1, 3);
            x.addRange(3, 5, 1, 2);
            int[] due = {1, 3, 2, 3, 1, 3, 2, 3, 1};
            for (int ticks = 0; ticks < due.length; ticks++) {
                E.due("in " + ticks + " ticks", x.shownIn(3, ticks), due[ticks]);
            }
        });
    }

    // ---- promise 27

    private static void fullTurn() {
        E.test("Promise 27: 1 at least, when new", x -> E.due("fullTurn()", x.fullTurn(), 1));
        E.test("Promise 27: 1 at least, if all ranges pause", x -> {
            x.addRange(0, 6, 5, 0);
            x.addRange(7, 9, 5, 2);
            x.pass(3);
            Checks.perform(x, "p0p1");
            E.due("fullTurn()", x.fullTurn(), 1);
        });
        int[][] ranges = {{0, 1, 1, 0, 2}, {0, 1, 1, 1, 2}, {0, 1, 1, 2, 2}, {0, 2, 1, 0, 3}, {0, 2, 1, 1, 3}, {0, 2, 1, 2, 4},
            {0, 31, 30, 0, 960}, {0, 31, 30, 1, 960}, {0, 31, 30, 2, 1860}, {0, 1, 30, 2, 60}};
        for (int[] range : ranges) {
            E.test("Promise 27: " + (range[1] + 1) + " places, speed " + range[2] + ", way " + range[3], x -> {
                x.addRange(range[0], range[1], range[2], range[3]);
                E.due("at first", x.fullTurn(), range[4]);
                x.pass(1);
                E.due("a tick later", x.fullTurn(), range[4]);
            });
        }
        E.test("Promise 27: with the way 2 the direction counts, at every turn", x -> {
            x.addRange(0, 3, 1, 2);
            for (int turn : new int[] {0, 1, 2, 3, 2, 1, 0}) {
                E.due("turn", x.range(0, 7), turn);
                E.due("fullTurn()", x.fullTurn(), 6);
                x.pass(1);
            }
        });
        E.test("Promise 27: the ticks of all glows, the least and the greatest length", x -> {
            x.addGlow(0, 5, 1);
            E.due("length 1", x.fullTurn(), 2);
            x.removeGlow(0);
            x.addGlow(0, 5, 30);
            E.due("length 30", x.fullTurn(), 60);
            x.pass(30);
            E.due("from its greatest strength", x.fullTurn(), 60);
        });
        E.test("Promise 27: ticks and turns count, not what is to be seen", x -> {
            x.addRange(0, 2, 2, 0);
            x.addGlow(0, 0, 5);
            E.due("all of it is black", x.fullTurn(), 30);
        });
        E.test("Promise 27: nothing changes", x ->
            E.leavesAll("fullTurn()", Edges.RICH, PaletteTurns::fullTurn, 120));
    }

    private static void fullTurnOfMany() {
        E.test("Promise 27: the least number, of two that have a divisor in common", x -> {
            x.addRange(0, 5, 4, 0);
            x.addRange(6, 8, 6, 0);
            E.due("24 and 18", x.fullTurn(), 72);
        });
        E.test("Promise 27: the least number, of two that are the same", x -> {
            x.addRange(0, 5, 4, 0);
            x.addRange(6, 11, 4, 1);
            E.due("24 and 24", x.fullTurn(), 24);
        });
        E.test("Promise 27: the least number, of two without a divisor in common", x -> {
            x.addRange(0, 4, 7, 0);
            x.addGlow(0, 1, 9);
            E.due("35 and 18", x.fullTurn(), 630);
        });
        E.test("Promise 27: a range that pauses is as it is now, beside one that runs", x -> {
            x.addRange(0, 6, 1, 0);
            x.addRange(7, 11, 1, 0);
            x.run(1, false);
            E.due("7 alone", x.fullTurn(), 7);
        });
        E.test("Promise 27: 6 ranges and 4 glows, each of them counts", x -> {
            int[] lasts = {1, 4, 9, 16, 18, 20};
            int[] speeds = {1, 1, 1, 1, 11, 13};
            int first = 0;
            for (int range = 0; range < 6; range++) {
                x.addRange(first, lasts[range], speeds[range], 0);
                first = lasts[range] + 1;
            }
            int[] lengths = {17, 19, 23, 29};
            for (int glow = 0; glow < 4; glow++) {
                x.addGlow(glow, 1, lengths[glow]);
            }
            E.due("more than an int holds", x.fullTurn(), 2L * 3 * 5 * 7 * 11 * 13 * 17 * 19 * 23 * 29);
        });
    }

    // ---- promise 28

    private static void nearest() {
        E.test("Promise 28: colour 0 to 262143", x -> {
            x.setColour(31, WHITE);
            E.due("0", x.nearest(0), 0);
            E.due("262143", x.nearest(WHITE), 31);
            E.outside(0, WHITE, "colour", Edges.NEW, PaletteTurns::nearest, OUT_OF_RANGE);
            E.outside(0, WHITE, "colour", Edges.RICH, PaletteTurns::nearest, OUT_OF_RANGE);
        });
        E.test("Promise 28: nothing changes", x ->
            E.leavesAll("nearest(63)", Edges.RICH, y -> y.nearest(63), 20));
    }

    private static void nearestOfMany() {
        E.test("Promise 28: of several the one with the least number, all", x ->
            E.due("nearest(262143)", x.nearest(WHITE), 0));
        E.test("Promise 28: of several the one with the least number, the same colour", x -> {
            x.setColour(7, 50);
            x.setColour(8, 50);
            x.setColour(31, 50);
            E.due("nearest(50)", x.nearest(50), 7);
        });
        E.test("Promise 28: of several the one with the least number, from two sides", x -> {
            x.setColour(7, 52);
            x.setColour(8, 48);
            E.due("nearest(50)", x.nearest(50), 7);
            E.due("one nearer to the other", x.nearest(49), 8);
        });
        E.test("Promise 28: the place, each of 32", x -> {
            x.blend(0, 31, 1, 63);
            for (int place = 0; place < 32; place++) {
                E.due("nearest(" + (1 + 2 * place) + ")", x.nearest(1 + 2 * place), place);
            }
        });
        E.test("Promise 28: the first and the last place", x -> {
            x.blend(0, 31, WHITE, WHITE);
            x.setColour(0, 5);
            E.due("the first", x.nearest(0), 0);
            x.setColour(31, 4);
            E.due("the last", x.nearest(0), 31);
        });
        E.test("Promise 28: the nearest by the squares of all three parts", x -> {
            x.blend(0, 31, WHITE, WHITE);
            x.setColour(3, Checks.rgb(0, 0, 5));
            x.setColour(4, Checks.rgb(0, 4, 0));
            x.setColour(5, Checks.rgb(3, 3, 0));
            E.due("16 is less than 18 and 25", x.nearest(0), 4);
            x.setColour(6, Checks.rgb(3, 2, 1));
            E.due("14 is less than 16", x.nearest(0), 6);
        });
        E.test("Promise 28: the shown colour, not the set one", x -> {
            x.setColour(3, 50);
            x.addRange(3, 4, 1, 0);
            x.pass(1);
            E.due("nearest(50)", x.nearest(50), 4);
            x.addGlow(9, 50, 1);
            x.removeRange(0);
            x.setColour(3, 0);
            E.due("not yet", x.nearest(50), 0);
            x.pass(1);
            E.due("nearest(50)", x.nearest(50), 9);
        });
    }

    // ---- promise 29

    private static void changes() {
        E.test("Promise 29: ticks 0 to 1000", x -> {
            x.addGlow(0, 9, 1);
            E.due("0 ticks", x.changes(0), 0);
            E.due("1 tick", x.changes(1), 64);
            E.due("999 ticks", x.changes(999), 64);
            E.due("1000 ticks", x.changes(1000), 0);
            E.outside(0, 1000, "ticks", Edges.NEW, PaletteTurns::changes, OUT_OF_RANGE);
            E.outside(0, 1000, "ticks", Edges.RICH, PaletteTurns::changes, OUT_OF_RANGE);
        });
        E.test("Promise 29: nothing changes", x ->
            E.leavesAll("changes(1)", Edges.RICH, y -> y.changes(1), 63));
    }

    private static void changesCount() {
        E.test("Promise 29: none, if nothing moves", x -> {
            allPlaces(x);
            E.due("changes(1000)", x.changes(1000), 0);
        });
        E.test("Promise 29: none, if a range pauses", x -> {
            allPlaces(x);
            x.addRange(0, 31, 1, 0);
            x.run(0, false);
            E.due("changes(1)", x.changes(1), 0);
        });
        E.test("Promise 29: pixels, not places", x -> {
            x.addGlow(9, 5, 1);
            E.due("a place that is not in the picture", x.changes(1), 0);
            x.paint(0, 0, 9);
            E.due("the first pixel", x.changes(1), 1);
            x.paint(7, 7, 9);
            E.due("and the last one", x.changes(1), 2);
        });
        E.test("Promise 29: another colour, not another turn", x -> {
            x.blend(0, 1, 5, 5);
            x.addRange(0, 1, 1, 0);
            E.due("both are alike", x.changes(1), 0);
            x.addGlow(0, 5, 1);
            E.due("the glow goes to the same colour", x.changes(1), 0);
        });
        E.test("Promise 29: the tick that makes a step, and the one ahead of it", x -> {
            x.setColour(0, 5);
            x.addRange(0, 1, 30, 0);
            E.due("in 29 ticks", x.changes(29), 0);
            E.due("in 30 ticks", x.changes(30), 64);
            E.due("in 59 ticks", x.changes(59), 64);
            E.due("in 60 ticks", x.changes(60), 0);
        });
        E.test("Promise 29: other than now, not than the tick before", x -> {
            x.addGlow(0, 60, 30);
            x.pass(10);
            E.due("in 40 ticks it is as now", x.changes(40), 0);
            E.due("in 39 ticks it is not", x.changes(39), 64);
        });
    }

    // ---- promise 30

    private static void pictureBack() {
        E.test("Promise 30: 1 at least, when new", x -> E.due("pictureBack()", x.pictureBack(), 1));
        E.test("Promise 30: 1 at least, if no step is made by the first tick", x -> {
            x.setColour(0, 5);
            x.addRange(0, 1, 2, 0);
            E.due("pictureBack()", x.pictureBack(), 1);
            x.pass(1);
            E.due("and if one is made", x.pictureBack(), 3);
        });
        E.test("Promise 30: the same colours, if the turn is not the same", x -> {
            x.blend(0, 3, 5, 5);
            x.addRange(0, 3, 1, 0);
            E.due("all alike", x.pictureBack(), 1);
            x.setColour(1, 7);
            x.setColour(3, 7);
            E.due("two by two", x.pictureBack(), 2);
        });
        E.test("Promise 30: the picture, not the palette", x -> {
            x.blend(1, 4, 1, 4);
            x.addRange(1, 4, 1, 0);
            E.due("no pixel has one of these places", x.pictureBack(), 1);
            x.paint(7, 7, 4);
            E.due("the last pixel has", x.pictureBack(), 4);
        });
        E.test("Promise 30: pixel by pixel, the same colours elsewhere don't count", x -> {
            x.setColour(0, 5);
            x.addRange(0, 1, 1, 0);
            for (int row = 0; row < 8; row++) {
                for (int column = 0; column < 8; column += 2) {
                    x.paint(row, column, 1);
                }
            }
            E.due("the other half has them in 1 tick", x.pictureBack(), 2);
        });
        E.test("Promise 30: a glow, from both sides", x -> {
            x.addGlow(0, 60, 30);
            E.due("from its least strength", x.pictureBack(), 60);
            x.pass(1);
            E.due("from the next one", x.pictureBack(), 58);
            x.pass(28);
            E.due("from the last but one", x.pictureBack(), 2);
            x.pass(1);
            E.due("from its greatest strength", x.pictureBack(), 60);
        });
        E.test("Promise 30: a range that pauses beside a glow", x -> {
            allPlaces(x);
            x.addRange(0, 30, 1, 0);
            x.run(0, false);
            x.addGlow(31, 0, 4);
            E.due("the glow alone", x.pictureBack(), 8);
        });
        E.test("Promise 30: nothing changes", x -> {
            PaletteTurns rich = Edges.made(Edges.RICH);
            E.leavesAll("pictureBack()", Edges.RICH, PaletteTurns::pictureBack, rich.pictureBack());
        });
    }

    private static void pictureBackLate() {
        E.test("Promise 30: 2000", x -> {
            allPlaces(x);
            x.addRange(0, 8, 3, 0);
            x.addRange(9, 16, 2, 1);
            x.addRange(17, 27, 1, 2);
            E.due("pictureBack()", x.pictureBack(), 2000);
        });
        E.test("Promise 30: NONE if it takes more than 2000, 2001", x -> {
            PaletteTurns late = new PaletteTurns();
            for (PaletteTurns y : new PaletteTurns[] {x, late}) {
                allPlaces(y);
                y.addRange(0, 6, 2, 0);
                y.addRange(7, 19, 2, 1);
                y.addRange(20, 30, 2, 0);
                y.pass(1);
            }
            E.due("pictureBack()", x.pictureBack(), NONE);
            late.pass(1000);
            late.pass(1000);
            E.due("2000 ticks later it is other than it was", same(x, late) ? 1 : 0, 0);
            late.pass(1);
            E.due("2001 ticks later it is as it was", same(x, late) ? 1 : 0, 1);
        });
        E.test("Promise 30: NONE if it takes far more, and nothing changes", x ->
            E.leavesAll("pictureBack()", y -> {
                allPlaces(y);
                y.addRange(0, 4, 1, 0);
                y.addRange(5, 11, 1, 0);
                y.addRange(12, 20, 1, 0);
                y.addRange(21, 31, 1, 0);
            }, PaletteTurns::pictureBack, NONE));
    }

    private static boolean same(PaletteTurns one, PaletteTurns other) {
        for (int pixel = 0; pixel < 64; pixel++) {
            if (one.pixel(pixel / 8, pixel % 8, true) != other.pixel(pixel / 8, pixel % 8, true)) {
                return false;
            }
        }
        return true;
    }

    // ---- promise 31

    private static void contrast() {
        E.test("Promise 31: 0 if all pixels show one colour", x -> {
            E.due("when new", x.contrast(), 0);
            x.blend(0, 31, WHITE, WHITE);
            x.paint(3, 3, 31);
            E.due("with two places", x.contrast(), 0);
        });
        E.test("Promise 31: the greatest there can be", x -> {
            x.setColour(31, WHITE);
            x.paint(3, 3, 31);
            E.due("contrast()", x.contrast(), 11907);
        });
        E.test("Promise 31: colours of places that are not in the picture don't count", x -> {
            x.blend(1, 31, WHITE, WHITE);
            E.due("contrast()", x.contrast(), 0);
        });
        E.test("Promise 31: the greatest of several", x -> {
            x.setColour(1, 3);
            x.setColour(2, 9);
            x.paint(0, 0, 1);
            x.paint(4, 4, 2);
            E.due("in the midst", x.contrast(), 81);
            x.paint(4, 4, 1);
            x.paint(7, 7, 2);
            E.due("at the end", x.contrast(), 81);
            x.paint(7, 7, 1);
            x.paint(0, 0, 2);
            E.due("at the beginning", x.contrast(), 81);
        });
        E.test("Promise 31: of the shown colours", x -> {
            x.addGlow(1, 60, 30);
            x.paint(3, 3, 1);
            E.due("at first", x.contrast(), 0);
            x.pass(30);
            E.due("30 ticks later", x.contrast(), 3600);
        });
        E.test("Promise 31: nothing changes", x -> {
            PaletteTurns rich = Edges.made(Edges.RICH);
            E.leavesAll("contrast()", Edges.RICH, PaletteTurns::contrast, rich.contrast());
        });
    }

    /** Two pixels as far from black as from one another: 900 and 900, together 1800. */
    private static void two(String sentence, int row, int column, int otherRow, int otherColumn, int due) {
        E.test(sentence + ", " + row + " " + column + " and " + otherRow + " " + otherColumn, x -> {
            x.setColour(1, Checks.rgb(0, 0, 30));
            x.setColour(2, Checks.rgb(0, 30, 0));
            x.paint(row, column, 1);
            x.paint(otherRow, otherColumn, 2);
            E.due("contrast()", x.contrast(), due);
            x.paint(row, column, 2);
            x.paint(otherRow, otherColumn, 1);
            E.due("the other way", x.contrast(), due);
        });
    }

    private static void contrastNeighbours() {
        two("Promise 31: pixels that are side by side", 0, 0, 0, 1, 1800);
        two("Promise 31: pixels that are side by side", 0, 6, 0, 7, 1800);
        two("Promise 31: pixels that are side by side", 7, 0, 7, 1, 1800);
        two("Promise 31: pixels that are side by side", 7, 6, 7, 7, 1800);
        two("Promise 31: above or below one another", 0, 0, 1, 0, 1800);
        two("Promise 31: above or below one another", 6, 0, 7, 0, 1800);
        two("Promise 31: above or below one another", 0, 7, 1, 7, 1800);
        two("Promise 31: above or below one another", 6, 7, 7, 7, 1800);
        two("Promise 31: not with a corner in common", 3, 3, 4, 4, 900);
        two("Promise 31: not with a corner in common", 3, 4, 4, 3, 900);
        two("Promise 31: a row doesn't go on in the next one", 0, 7, 1, 0, 900);
        two("Promise 31: a row doesn't go on in the next one", 6, 7, 7, 0, 900);
        two("Promise 31: a row doesn't begin again", 3, 0, 3, 7, 900);
        two("Promise 31: a column doesn't begin again", 0, 3, 7, 3, 900);
        two("Promise 31: not with one between them", 3, 3, 3, 5, 900);
        two("Promise 31: not with one between them", 3, 3, 5, 3, 900);
    }
}
