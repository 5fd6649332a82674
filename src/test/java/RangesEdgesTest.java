/** Boundary cases of promises 5 to 8 and 22: addRange, removeRange, setSpeed, run, range. */
final class RangesEdgesTest {
    private static final Edges E = new Edges("RangesEdgesTest");
    private static final int UNKNOWN = PaletteTurns.UNKNOWN;
    private static final int OUT_OF_RANGE = PaletteTurns.OUT_OF_RANGE;
    private static final int NOT_POSSIBLE = PaletteTurns.NOT_POSSIBLE;
    private static final int FULL = PaletteTurns.FULL;
    private static final int NONE = PaletteTurns.NONE;

    public static void main(String[] args) {
        addRangePlaces();
        addRangeSpeedAndWay();
        addRangeAnswers();
        addRangeLeaves();
        addRangeNotPossible();
        addRangeFull();
        addRangeOrder();
        removeRange();
        setSpeedNumbers();
        setSpeed();
        run();
        runAnswers();
        range();
        rangeWhat();
        E.end();
    }

    /** As many ranges as there can be, with places free behind each of them. */
    private static void six(PaletteTurns x) {
        for (int range = 0; range < 6; range++) {
            x.addRange(5 * range, 5 * range + 2, range + 1, 0);
        }
    }

    private static void addRangePlaces() {
        E.test("Promise 5: first 0 to 31", x -> {
            E.due("first 0", x.addRange(0, 1, 1, 0), 0);
            E.due("first 30", x.addRange(30, 31, 1, 0), 1);
            E.due("range(0, 0)", x.range(0, 0), 0);
            E.due("range(1, 0)", x.range(1, 0), 30);
            E.outside(0, 31, "first", Edges.NEW, (y, first) -> y.addRange(first, 31, 1, 0), UNKNOWN);
            E.outside(0, 31, "first", Edges.RICH, (y, first) -> y.addRange(first, 31, 1, 0), UNKNOWN);
        });
        E.test("Promise 5: first 31 is a place, but no last place is left", x -> {
            E.refused("addRange(31, 32, 1, 0)", y -> y.addRange(31, 32, 1, 0), OUT_OF_RANGE);
            E.refused("addRange(31, 31, 1, 0)", y -> y.addRange(31, 31, 1, 0), OUT_OF_RANGE);
        });
        E.test("Promise 5: last first + 1 to 31", x -> {
            E.due("first + 1", x.addRange(3, 4, 1, 0), 0);
            E.due("31", x.addRange(25, 31, 1, 0), 1);
            E.due("range(0, 1)", x.range(0, 1), 4);
            E.due("range(1, 1)", x.range(1, 1), 31);
            E.outside(26, 31, "last", Edges.NEW, (y, last) -> y.addRange(25, last, 1, 0), OUT_OF_RANGE);
            E.outside(26, 31, "last", Edges.RICH, (y, last) -> y.addRange(25, last, 1, 0), OUT_OF_RANGE);
        });
        E.test("Promise 5: last less than first", x ->
            E.refused("addRange(25, 24, 1, 0)", y -> y.addRange(25, 24, 1, 0), OUT_OF_RANGE));
    }

    private static void addRangeSpeedAndWay() {
        E.test("Promise 5: speed 1 to 30", x -> {
            E.due("speed 1", x.addRange(3, 4, 1, 0), 0);
            E.due("speed 30", x.addRange(5, 6, 30, 0), 1);
            E.due("range(0, 2)", x.range(0, 2), 1);
            E.due("range(1, 2)", x.range(1, 2), 30);
            E.outside(1, 30, "speed", Edges.NEW, (y, speed) -> y.addRange(25, 26, speed, 0), OUT_OF_RANGE);
            E.outside(1, 30, "speed", Edges.RICH, (y, speed) -> y.addRange(25, 26, speed, 0), OUT_OF_RANGE);
        });
        E.test("Promise 5: way 0 to 2", x -> {
            for (int way = 0; way <= 2; way++) {
                E.due("way " + way, x.addRange(3 * way, 3 * way + 1, 1, way), way);
                E.due("range(" + way + ", 3)", x.range(way, 3), way);
            }
            E.outside(0, 2, "way", Edges.NEW, (y, way) -> y.addRange(25, 26, 1, way), OUT_OF_RANGE);
            E.outside(0, 2, "way", Edges.RICH, (y, way) -> y.addRange(25, 26, 1, way), OUT_OF_RANGE);
        });
    }

    private static void addRangeAnswers() {
        E.test("Promise 5: its number, from 0 to 5", x -> {
            for (int range = 0; range < 6; range++) {
                E.due("number", x.addRange(31 - 2 * range - 1, 31 - 2 * range, 1, 0), range);
            }
        });
        E.test("Promise 5: this is a change", x -> {
            E.recorded("addRange when new", Edges.NEW, y -> y.addRange(0, 31, 30, 2), 0);
            E.recorded("addRange when rich", Edges.RICH, y -> y.addRange(10, 11, 1, 0), 2);
        });
    }

    private static void addRangeLeaves() {
        E.test("Promise 5: the others go on as they were", x -> {
            x.addRange(0, 3, 5, 1);
            x.addGlow(0, 9, 4);
            x.pass(7);
            x.run(0, false);
            x.addRange(4, 5, 1, 0);
            int[] due = {0, 3, 5, 1, 0, 2, 1, 3};
            for (int what = 0; what < 8; what++) {
                E.due("range(0, " + what + ")", x.range(0, what), due[what]);
            }
            E.due("ticks of the glow", x.glow(0, 3), 7);
        });
    }

    private static void addRangeNotPossible() {
        int[][] taken = {{9, 10}, {14, 15}, {10, 14}, {11, 13}, {10, 11}, {13, 14}, {9, 15}, {0, 31}};
        for (int[] places : taken) {
            E.test("Promise 5: NOT_POSSIBLE if 10 to 14 is taken, places " + places[0] + " to " + places[1], x ->
                E.leavesAll("addRange", y -> y.addRange(10, 14, 3, 0),
                    y -> y.addRange(places[0], places[1], 1, 0), NOT_POSSIBLE));
        }
        E.test("Promise 5: NOT_POSSIBLE if another range has one of these places, the last range of several", x -> {
            six(x);
            x.removeRange(0);
            E.due("with the last one", x.addRange(27, 28, 1, 0), NOT_POSSIBLE);
            E.due("with none", x.addRange(28, 29, 1, 0), 5);
        });
        E.test("Promise 5: NOT_POSSIBLE also if the range pauses, and possible when it is gone", x -> {
            x.addRange(3, 5, 1, 0);
            x.run(0, false);
            E.due("it pauses", x.addRange(5, 6, 1, 0), NOT_POSSIBLE);
            x.removeRange(0);
            E.due("it is gone", x.addRange(5, 6, 1, 0), 0);
        });
        E.test("Promise 5: the places right ahead of a range and right behind it are free", x -> {
            x.addRange(10, 14, 3, 0);
            E.due("ahead", x.addRange(8, 9, 1, 0), 1);
            E.due("behind", x.addRange(15, 16, 1, 0), 2);
        });
    }

    private static void addRangeFull() {
        E.test("Promise 5: FULL if there are 6", x -> {
            E.leavesAll("a seventh", RangesEdgesTest::six, y -> y.addRange(3, 4, 1, 0), FULL);
            six(x);
            x.removeRange(5);
            E.due("when one is gone there is room", x.addRange(3, 4, 1, 0), 5);
            E.due("for one", x.addRange(8, 9, 1, 0), FULL);
        });
        E.test("Promise 5: FULL also if all of them pause", x -> {
            six(x);
            Checks.perform(x, "p0p1p2p3p4p5");
            E.due("a seventh", x.addRange(3, 4, 1, 0), FULL);
        });
    }

    private static void addRangeOrder() {
        E.test("Promise 5: UNKNOWN ahead of OUT_OF_RANGE", x -> {
            E.refused("first and last", y -> y.addRange(32, 32, 1, 0), UNKNOWN);
            E.refused("first and speed", y -> y.addRange(-1, 1, 0, 0), UNKNOWN);
            E.refused("first and way", y -> y.addRange(-1, 1, 1, 3), UNKNOWN);
        });
        E.test("Promise 5: UNKNOWN ahead of NOT_POSSIBLE and FULL", x ->
            E.leavesAll("addRange(-1, 1, 1, 0)", RangesEdgesTest::six, y -> y.addRange(-1, 1, 1, 0), UNKNOWN));
        E.test("Promise 5: OUT_OF_RANGE ahead of NOT_POSSIBLE", x -> {
            E.leavesAll("last", Edges.RICH, y -> y.addRange(4, 32, 1, 0), OUT_OF_RANGE);
            E.leavesAll("speed", Edges.RICH, y -> y.addRange(4, 5, 31, 0), OUT_OF_RANGE);
            E.leavesAll("way", Edges.RICH, y -> y.addRange(4, 5, 1, 3), OUT_OF_RANGE);
        });
        E.test("Promise 5: OUT_OF_RANGE ahead of FULL", x -> {
            E.leavesAll("last", RangesEdgesTest::six, y -> y.addRange(28, 32, 1, 0), OUT_OF_RANGE);
            E.leavesAll("speed", RangesEdgesTest::six, y -> y.addRange(28, 29, 0, 0), OUT_OF_RANGE);
            E.leavesAll("way", RangesEdgesTest::six, y -> y.addRange(28, 29, 1, -1), OUT_OF_RANGE);
        });
        E.test("Promise 5: NOT_POSSIBLE ahead of FULL", x ->
            E.leavesAll("addRange(2, 3, 1, 0)", RangesEdgesTest::six, y -> y.addRange(2, 3, 1, 0), NOT_POSSIBLE));
    }

    private static void removeRange() {
        E.test("Promise 6: a range, from 0 to the last one", x -> {
            six(x);
            E.due("the last one", x.removeRange(5), 5);
            E.due("the first one", x.removeRange(0), 4);
            E.due("0 is the second one now", x.range(0, 0), 5);
            E.due("3 is the last one now", x.range(3, 0), 20);
        });
        E.test("Promise 6: UNKNOWN", x -> {
            E.outside(0, -1, "no range", Edges.NEW, PaletteTurns::removeRange, UNKNOWN);
            E.outside(0, 1, "two ranges", Edges.RICH, PaletteTurns::removeRange, UNKNOWN);
            E.outside(0, 5, "six ranges", RangesEdgesTest::six, PaletteTurns::removeRange, UNKNOWN);
        });
        E.test("Promise 6: how many ranges are left, down to none", x -> {
            six(x);
            for (int left = 5; left >= 0; left--) {
                E.due("left", x.removeRange(0), left);
            }
            E.due("none is there", x.removeRange(0), UNKNOWN);
        });
        E.test("Promise 6: this is a change", x -> {
            E.recorded("the first one", Edges.RICH, y -> y.removeRange(0), 1);
            E.recorded("the last one", Edges.RICH, y -> y.removeRange(1), 1);
            E.recorded("the only one", y -> y.addRange(3, 5, 2, 1), y -> y.removeRange(0), 0);
            E.recorded("one of six", RangesEdgesTest::six, y -> y.removeRange(2), 5);
        });
        E.test("Promise 6: the others go on as they were, ahead of it and behind it", x -> {
            six(x);
            x.pass(7);
            x.run(5, false);
            x.removeRange(2);
            int[] ticks = {0, 1, 3, 2, 1};
            int[] steps = {7, 3, 1, 1, 1};
            for (int range = 0; range < 5; range++) {
                E.due("range(" + range + ", 5)", x.range(range, 5), ticks[range]);
                E.due("range(" + range + ", 6)", x.range(range, 6), steps[range]);
                E.due("range(" + range + ", 4)", x.range(range, 4), range < 4 ? 1 : 0);
            }
        });
        E.test("Promise 6: its places show their set colours", x -> {
            x.blend(3, 4, 1, 2);
            x.addRange(3, 4, 1, 0);
            x.pass(1);
            x.removeRange(0);
            E.due("shown(3)", x.shown(3), 1);
            E.due("shown(4)", x.shown(4), 2);
        });
    }

    private static void setSpeedNumbers() {
        E.test("Promise 7: a range", x -> {
            E.outside(0, -1, "no range", Edges.NEW, (y, range) -> y.setSpeed(range, 1, 0), UNKNOWN);
            E.outside(0, 1, "two ranges", Edges.RICH, (y, range) -> y.setSpeed(range, 1, 0), UNKNOWN);
            six(x);
            E.due("the first one", x.setSpeed(0, 7, 0), 1);
            E.due("the last one", x.setSpeed(5, 7, 0), 6);
            E.due("behind it", x.setSpeed(6, 7, 0), UNKNOWN);
        });
        E.test("Promise 7: speed 1 to 30", x -> {
            x.addRange(3, 4, 5, 0);
            E.due("1", x.setSpeed(0, 1, 0), 5);
            E.due("it is set", x.range(0, 2), 1);
            E.due("30", x.setSpeed(0, 30, 0), 1);
            E.due("it is set", x.range(0, 2), 30);
            E.outside(1, 30, "speed", Edges.RICH, (y, speed) -> y.setSpeed(0, speed, 0), OUT_OF_RANGE);
        });
        E.test("Promise 7: way 0 to 2", x -> {
            x.addRange(3, 4, 5, 1);
            for (int way = 0; way <= 2; way++) {
                E.due("way " + way, x.setSpeed(0, 5, way), 5);
                E.due("it is set", x.range(0, 3), way);
            }
            E.outside(0, 2, "way", Edges.RICH, (y, way) -> y.setSpeed(0, 5, way), OUT_OF_RANGE);
        });
        E.test("Promise 7: UNKNOWN ahead of OUT_OF_RANGE", x -> {
            E.refused("range and speed", y -> y.setSpeed(-1, 0, 0), UNKNOWN);
            E.refused("range and way", y -> y.setSpeed(2, 1, 3), UNKNOWN);
            E.leavesAll("no range, speed", Edges.NEW, y -> y.setSpeed(0, 31, 0), UNKNOWN);
        });
    }

    private static void setSpeed() {
        E.test("Promise 7: its steps and ticks are 0 then", x -> {
            x.addRange(3, 7, 5, 0);
            x.addRange(8, 9, 5, 0);
            x.pass(8);
            x.setSpeed(0, 4, 1);
            E.due("ticks", x.range(0, 5), 0);
            E.due("steps", x.range(0, 6), 0);
            E.due("turn", x.range(0, 7), 0);
            E.due("ticks of another one", x.range(1, 5), 3);
            E.due("steps of another one", x.range(1, 6), 1);
            E.due("steps so far", x.total(4), 2);
        });
        E.test("Promise 7: its steps and ticks are 0 then, also with the same speed and way", x -> {
            x.addRange(3, 7, 5, 0);
            x.pass(8);
            E.due("the same again", x.setSpeed(0, 5, 0), 5);
            E.due("ticks", x.range(0, 5), 0);
            E.due("steps", x.range(0, 6), 0);
        });
        E.test("Promise 7: a range that pauses still pauses", x -> {
            E.due("setSpeed", Edges.made(Edges.RICH).setSpeed(1, 9, 0), 3);
            x.addRange(3, 7, 5, 0);
            x.run(0, false);
            x.setSpeed(0, 1, 0);
            E.due("range(0, 4)", x.range(0, 4), 0);
            E.due("pass(9)", x.pass(9), 0);
        });
        E.test("Promise 7: this is a change, also with the same speed and way", x -> {
            E.recorded("another speed", Edges.RICH, y -> y.setSpeed(0, 30, 2), 4);
            E.recorded("the same", Edges.RICH, y -> y.setSpeed(0, 4, 1), 4);
            E.recorded("the same of a range that has not moved", y -> y.addRange(3, 5, 2, 1), y -> y.setSpeed(0, 2, 1), 2);
        });
    }

    private static void run() {
        E.test("Promise 8: a range", x -> {
            E.outside(0, -1, "no range", Edges.NEW, (y, range) -> y.run(range, false), UNKNOWN);
            E.outside(0, 1, "two ranges", Edges.RICH, (y, range) -> y.run(range, false), UNKNOWN);
            six(x);
            E.due("the first one", x.run(0, false), 5);
            E.due("the last one", x.run(5, false), 4);
            E.due("behind it", x.run(6, false), UNKNOWN);
        });
        E.test("Promise 8: UNKNOWN, whatever is asked", x -> {
            E.refused("run(-1, true)", y -> y.run(-1, true), UNKNOWN);
            E.refused("run(2, true)", y -> y.run(2, true), UNKNOWN);
        });
        E.test("Promise 8: NONE if it is so already", x -> {
            E.leavesAll("it runs", Edges.RICH, y -> y.run(0, true), NONE);
            E.leavesAll("it pauses", Edges.RICH, y -> y.run(1, false), NONE);
        });
    }

    private static void runAnswers() {
        E.test("Promise 8: how many ranges run then, down to none and up to 6", x -> {
            six(x);
            for (int range = 0; range < 6; range++) {
                E.due("one pauses more", x.run(range, false), 5 - range);
            }
            for (int range = 0; range < 6; range++) {
                E.due("one runs more", x.run(range, true), range + 1);
            }
        });
        E.test("Promise 8: ticks and steps stay", x -> {
            x.addRange(3, 7, 5, 0);
            x.pass(8);
            x.run(0, false);
            E.due("ticks", x.range(0, 5), 3);
            E.due("steps", x.range(0, 6), 1);
            x.run(0, true);
            E.due("ticks", x.range(0, 5), 3);
            E.due("steps", x.range(0, 6), 1);
        });
        E.test("Promise 8: this is a change", x -> {
            E.recorded("run(0, false)", Edges.RICH, y -> y.run(0, false), 0);
            E.recorded("run(1, true)", Edges.RICH, y -> y.run(1, true), 2);
            E.recorded("run(0, false) of the only one", y -> y.addRange(3, 5, 2, 1), y -> y.run(0, false), 0);
        });
    }

    private static void range() {
        E.test("Promise 22: a range", x -> {
            E.outside(0, -1, "no range", Edges.NEW, (y, range) -> y.range(range, 0), UNKNOWN);
            E.outside(0, 1, "two ranges", Edges.RICH, (y, range) -> y.range(range, 0), UNKNOWN);
            six(x);
            E.due("the first one", x.range(0, 2), 1);
            E.due("the last one", x.range(5, 2), 6);
            E.due("behind it", x.range(6, 2), UNKNOWN);
        });
        E.test("Promise 22: what 0 to 7", x -> {
            E.outside(0, 7, "what", Edges.RICH, (y, what) -> y.range(0, what), OUT_OF_RANGE);
            PaletteTurns rich = Edges.made(Edges.RICH);
            E.due("what 0", rich.range(0, 0), 4);
            E.due("what 7", rich.range(0, 7), 4);
        });
        E.test("Promise 22: UNKNOWN ahead of OUT_OF_RANGE", x -> {
            E.refused("range(2, 8)", y -> y.range(2, 8), UNKNOWN);
            E.refused("range(-1, -1)", y -> y.range(-1, -1), UNKNOWN);
        });
    }

    private static void rangeWhat() {
        int[][] due = {{4, 9, 4, 1, 1, 1, 2, 4}, {12, 14, 3, 2, 0, 1, 2, 2}};
        for (int number = 0; number < 2; number++) {
            for (int what = 0; what < 8; what++) {
                int range = number;
                int asked = what;
                E.test("Promise 22: range(" + range + ", " + what + "), and nothing changes", x ->
                    E.leavesAll("when rich", Edges.RICH, y -> y.range(range, asked), due[range][asked]));
            }
        }
        E.test("Promise 22: 0 and 1 at the ends of the palette", x -> {
            x.addRange(0, 31, 1, 0);
            E.due("first place", x.range(0, 0), 0);
            E.due("last place", x.range(0, 1), 31);
        });
        E.test("Promise 22: 6 for its steps, which don't begin again with the turn", x -> {
            x.addRange(0, 1, 1, 0);
            x.pass(1000);
            E.due("steps", x.range(0, 6), 1000);
            E.due("turn", x.range(0, 7), 0);
        });
    }
}
