/** Boundary cases of promises 9, 10 and 23: addGlow, removeGlow, glow. */
final class GlowsEdgesTest {
    private static final Edges E = new Edges("GlowsEdgesTest");
    private static final int UNKNOWN = PaletteTurns.UNKNOWN;
    private static final int OUT_OF_RANGE = PaletteTurns.OUT_OF_RANGE;
    private static final int NOT_POSSIBLE = PaletteTurns.NOT_POSSIBLE;
    private static final int FULL = PaletteTurns.FULL;
    private static final int WHITE = 262143;

    public static void main(String[] args) {
        addGlow();
        addGlowAnswers();
        addGlowOrder();
        removeGlow();
        glow();
        glowWhat();
        E.end();
    }

    private static void four(PaletteTurns x) {
        for (int glow = 0; glow < 4; glow++) {
            x.addGlow(5 * glow, 60 + glow, glow + 1);
        }
    }

    private static void addGlow() {
        E.test("Promise 9: place 0 to 31", x -> {
            E.due("place 0", x.addGlow(0, 5, 1), 0);
            E.due("place 31", x.addGlow(31, 5, 1), 1);
            E.due("glow(0, 0)", x.glow(0, 0), 0);
            E.due("glow(1, 0)", x.glow(1, 0), 31);
            E.outside(0, 31, "place", Edges.NEW, (y, place) -> y.addGlow(place, 5, 1), UNKNOWN);
            E.outside(0, 31, "place", Edges.RICH, (y, place) -> y.addGlow(place, 5, 1), UNKNOWN);
        });
        E.test("Promise 9: colour 0 to 262143", x -> {
            E.due("colour 0", x.addGlow(3, 0, 1), 0);
            E.due("colour 262143", x.addGlow(4, WHITE, 1), 1);
            E.due("glow(0, 1)", x.glow(0, 1), 0);
            E.due("glow(1, 1)", x.glow(1, 1), WHITE);
            E.outside(0, WHITE, "colour", Edges.NEW, (y, colour) -> y.addGlow(3, colour, 1), OUT_OF_RANGE);
            E.outside(0, WHITE, "colour", Edges.RICH, (y, colour) -> y.addGlow(3, colour, 1), OUT_OF_RANGE);
        });
        E.test("Promise 9: length 1 to 30", x -> {
            E.due("length 1", x.addGlow(3, 5, 1), 0);
            E.due("length 30", x.addGlow(4, 5, 30), 1);
            E.due("glow(0, 2)", x.glow(0, 2), 1);
            E.due("glow(1, 2)", x.glow(1, 2), 30);
            E.outside(1, 30, "length", Edges.NEW, (y, length) -> y.addGlow(3, 5, length), OUT_OF_RANGE);
            E.outside(1, 30, "length", Edges.RICH, (y, length) -> y.addGlow(3, 5, length), OUT_OF_RANGE);
        });
    }

    private static void addGlowAnswers() {
        E.test("Promise 9: its number, from 0 to 3", x -> {
            for (int glow = 0; glow < 4; glow++) {
                E.due("number", x.addGlow(31 - glow, 5, 1), glow);
            }
        });
        E.test("Promise 9: NOT_POSSIBLE if a glow has this place", x -> {
            E.leavesAll("the first glow of two", Edges.RICH, y -> y.addGlow(6, 5, 1), NOT_POSSIBLE);
            E.leavesAll("the last glow of two", Edges.RICH, y -> y.addGlow(20, 63, 3), NOT_POSSIBLE);
            x.addGlow(3, 5, 1);
            x.removeGlow(0);
            E.due("when it is gone", x.addGlow(3, 5, 1), 0);
        });
        E.test("Promise 9: FULL if there are 4", x -> {
            E.leavesAll("a fifth", GlowsEdgesTest::four, y -> y.addGlow(1, 5, 1), FULL);
            four(x);
            x.removeGlow(0);
            E.due("when one is gone there is room", x.addGlow(1, 5, 1), 3);
            E.due("for one", x.addGlow(2, 5, 1), FULL);
        });
        E.test("Promise 9: this is a change", x -> {
            E.recorded("addGlow when new", Edges.NEW, y -> y.addGlow(0, 5, 1), 0);
            E.recorded("addGlow when rich", Edges.RICH, y -> y.addGlow(31, 5, 1), 2);
        });
        E.test("Promise 9: the others go on as they were", x -> {
            x.addGlow(3, 9, 4);
            x.addRange(3, 5, 4, 2);
            x.pass(7);
            x.addGlow(4, 9, 4);
            E.due("ticks of the other glow", x.glow(0, 3), 7);
            E.due("ticks of the range", x.range(0, 5), 3);
            E.due("steps of the range", x.range(0, 6), 1);
        });
        E.test("Promise 9: nothing is to be seen of it at once", x -> {
            x.setColour(3, 7);
            x.addGlow(3, WHITE, 1);
            E.due("shown(3)", x.shown(3), 7);
        });
    }

    private static void addGlowOrder() {
        E.test("Promise 9: UNKNOWN ahead of OUT_OF_RANGE", x -> {
            E.refused("place and colour", y -> y.addGlow(32, WHITE + 1, 1), UNKNOWN);
            E.refused("place and length", y -> y.addGlow(-1, 0, 31), UNKNOWN);
        });
        E.test("Promise 9: UNKNOWN ahead of FULL", x ->
            E.leavesAll("addGlow(32, 5, 1)", GlowsEdgesTest::four, y -> y.addGlow(32, 5, 1), UNKNOWN));
        E.test("Promise 9: OUT_OF_RANGE ahead of NOT_POSSIBLE", x -> {
            E.leavesAll("colour", Edges.RICH, y -> y.addGlow(6, -1, 1), OUT_OF_RANGE);
            E.leavesAll("length", Edges.RICH, y -> y.addGlow(6, 5, 0), OUT_OF_RANGE);
        });
        E.test("Promise 9: OUT_OF_RANGE ahead of FULL", x -> {
            E.leavesAll("colour", GlowsEdgesTest::four, y -> y.addGlow(1, WHITE + 1, 1), OUT_OF_RANGE);
            E.leavesAll("length", GlowsEdgesTest::four, y -> y.addGlow(1, 5, 31), OUT_OF_RANGE);
        });
        E.test("Promise 9: NOT_POSSIBLE ahead of FULL", x ->
            E.leavesAll("addGlow(15, 5, 1)", GlowsEdgesTest::four, y -> y.addGlow(15, 5, 1), NOT_POSSIBLE));
    }

    private static void removeGlow() {
        E.test("Promise 10: a glow, from 0 to the last one", x -> {
            four(x);
            E.due("the last one", x.removeGlow(3), 3);
            E.due("the first one", x.removeGlow(0), 2);
            E.due("0 is the second one now", x.glow(0, 0), 5);
            E.due("1 is the third one now", x.glow(1, 0), 10);
        });
        E.test("Promise 10: UNKNOWN", x -> {
            E.outside(0, -1, "no glow", Edges.NEW, PaletteTurns::removeGlow, UNKNOWN);
            E.outside(0, 1, "two glows", Edges.RICH, PaletteTurns::removeGlow, UNKNOWN);
            E.outside(0, 3, "four glows", GlowsEdgesTest::four, PaletteTurns::removeGlow, UNKNOWN);
        });
        E.test("Promise 10: how many glows are left, down to none", x -> {
            four(x);
            for (int left = 3; left >= 0; left--) {
                E.due("left", x.removeGlow(0), left);
            }
            E.due("none is there", x.removeGlow(0), UNKNOWN);
        });
        E.test("Promise 10: this is a change", x -> {
            E.recorded("the first one", Edges.RICH, y -> y.removeGlow(0), 1);
            E.recorded("the last one", Edges.RICH, y -> y.removeGlow(1), 1);
            E.recorded("the only one", y -> y.addGlow(3, 5, 2), y -> y.removeGlow(0), 0);
            E.recorded("one of four", GlowsEdgesTest::four, y -> y.removeGlow(1), 3);
        });
        E.test("Promise 10: the others go on as they were, ahead of it and behind it", x -> {
            four(x);
            x.pass(7);
            x.removeGlow(1);
            int[] ticks = {1, 1, 7};
            for (int glow = 0; glow < 3; glow++) {
                E.due("glow(" + glow + ", 3)", x.glow(glow, 3), ticks[glow]);
            }
        });
        E.test("Promise 10: its place shows what is turned there", x -> {
            x.setColour(4, 9);
            x.addRange(3, 4, 1, 0);
            x.addGlow(3, WHITE, 3);
            x.pass(3);
            x.removeGlow(0);
            E.due("shown(3)", x.shown(3), 9);
        });
    }

    private static void glow() {
        E.test("Promise 23: a glow", x -> {
            E.outside(0, -1, "no glow", Edges.NEW, (y, glow) -> y.glow(glow, 0), UNKNOWN);
            E.outside(0, 1, "two glows", Edges.RICH, (y, glow) -> y.glow(glow, 0), UNKNOWN);
            four(x);
            E.due("the first one", x.glow(0, 2), 1);
            E.due("the last one", x.glow(3, 2), 4);
            E.due("behind it", x.glow(4, 2), UNKNOWN);
        });
        E.test("Promise 23: what 0 to 4", x -> {
            E.outside(0, 4, "what", Edges.RICH, (y, what) -> y.glow(0, what), OUT_OF_RANGE);
            PaletteTurns rich = Edges.made(Edges.RICH);
            E.due("what 0", rich.glow(0, 0), 6);
            E.due("what 4", rich.glow(0, 4), 1);
        });
        E.test("Promise 23: UNKNOWN ahead of OUT_OF_RANGE", x -> {
            E.refused("glow(2, 5)", y -> y.glow(2, 5), UNKNOWN);
            E.refused("glow(-1, -1)", y -> y.glow(-1, -1), UNKNOWN);
        });
    }

    private static void glowWhat() {
        int[][] due = {{6, 4032, 5, 9, 1}, {20, 63, 3, 3, 3}};
        for (int number = 0; number < 2; number++) {
            for (int what = 0; what < 5; what++) {
                int glow = number;
                int asked = what;
                E.test("Promise 23: glow(" + glow + ", " + what + "), and nothing changes", x ->
                    E.leavesAll("when rich", Edges.RICH, y -> y.glow(glow, asked), due[glow][asked]));
            }
        }
    }
}
