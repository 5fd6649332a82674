/** Promises 5 to 8 and 22: addRange, removeRange, setSpeed, run, range. */
final class RangesTest {
    private static final Checks C = new Checks("RangesTest");

    public static void main(String[] args) {
        addRange();
        addRangeWrong();
        removeRange();
        allSix();
        setSpeed();
        run();
        range();
        turns();
        C.end();
    }

    private static void addRange() {
        PaletteTurns x = new PaletteTurns();
        for (int i = 0; i < 6; i++) {
            C.due("add", x.addRange(4 * i, 4 * i + 3, i + 1, i % 3), i);
        }
        C.due("no room", x.addRange(24, 25, 1, 0), PaletteTurns.FULL);
        C.due("taken before no room", x.addRange(23, 25, 1, 0), PaletteTurns.NOT_POSSIBLE);
        C.due("out of range before taken", x.addRange(23, 25, 31, 0), PaletteTurns.OUT_OF_RANGE);
        C.due("ranges", x.total(0), 6);
        C.due("states", x.total(8), 4);
    }

    private static void addRangeWrong() {
        PaletteTurns x = new PaletteTurns();
        C.due("first -1", x.addRange(-1, 3, 1, 0), PaletteTurns.UNKNOWN);
        C.due("first 32", x.addRange(32, 33, 0, 9), PaletteTurns.UNKNOWN);
        C.due("first 31", x.addRange(31, 32, 1, 0), PaletteTurns.OUT_OF_RANGE);
        C.due("last = first", x.addRange(4, 4, 1, 0), PaletteTurns.OUT_OF_RANGE);
        C.due("last < first", x.addRange(4, 3, 1, 0), PaletteTurns.OUT_OF_RANGE);
        C.due("speed 0", x.addRange(4, 5, 0, 0), PaletteTurns.OUT_OF_RANGE);
        C.due("speed 31", x.addRange(4, 5, 31, 0), PaletteTurns.OUT_OF_RANGE);
        C.due("way -1", x.addRange(4, 5, 1, -1), PaletteTurns.OUT_OF_RANGE);
        C.due("way 3", x.addRange(4, 5, 1, 3), PaletteTurns.OUT_OF_RANGE);
        C.due("nothing yet", x.total(0) + x.total(8), 0);
        C.due("right", x.addRange(4, 8, 30, 2), 0);
        C.due("taken from below", x.addRange(0, 4, 1, 0), PaletteTurns.NOT_POSSIBLE);
        C.due("taken from above", x.addRange(8, 9, 1, 0), PaletteTurns.NOT_POSSIBLE);
        C.due("taken within", x.addRange(5, 6, 1, 0), PaletteTurns.NOT_POSSIBLE);
        C.due("taken around", x.addRange(3, 9, 1, 0), PaletteTurns.NOT_POSSIBLE);
        C.due("side by side, below", x.addRange(2, 3, 1, 0), 1);
        C.due("side by side, above", x.addRange(9, 31, 1, 0), 2);
    }

    private static void removeRange() {
        PaletteTurns x = new PaletteTurns();
        C.due("none there", x.removeRange(0), PaletteTurns.UNKNOWN);
        x.addRange(0, 1, 1, 0);
        x.addRange(2, 3, 2, 1);
        x.addRange(4, 5, 3, 2);
        x.pass(5);
        C.due("number -1", x.removeRange(-1), PaletteTurns.UNKNOWN);
        C.due("number 3", x.removeRange(3), PaletteTurns.UNKNOWN);
        C.due("number huge", x.removeRange(Integer.MAX_VALUE), PaletteTurns.UNKNOWN);
        C.due("remove the middle one", x.removeRange(1), 2);
        C.due("the first one stays", x.range(0, 0), 0);
        C.due("the last one has become 1", x.range(1, 0), 4);
        C.due("with its ticks", x.range(1, 5), 2);
        C.due("with its steps", x.range(1, 6), 1);
        C.due("2 is gone", x.range(2, 0), PaletteTurns.UNKNOWN);
        C.due("its steps stay counted", x.total(4), 8);
        C.due("add anew: as new", x.addRange(2, 3, 7, 1), 2);
        C.due("ticks", x.range(2, 5), 0);
        C.due("steps", x.range(2, 6), 0);
        C.due("runs", x.range(2, 4), 1);
        C.due("undo", x.undo(), 3);
        C.due("undo the removal", x.undo(), 2);
        C.due("the middle one is there again", x.range(1, 0), 2);
        C.due("with its last place", x.range(1, 1), 3);
        C.due("the last one is 2 again", x.range(2, 1), 5);
        C.due("and its steps", x.range(1, 6), 2);
    }

    private static void allSix() {
        PaletteTurns x = new PaletteTurns();
        for (int i = 0; i < 6; i++) {
            x.addRange(3 * i, 3 * i + 1 + i % 2, 1, 0);
        }
        C.due("all of them go on", x.pass(2), 12);
        x.run(5, false);
        C.due("remove the last one, which pauses", x.removeRange(5), 5);
        C.due("add anew", x.addRange(20, 25, 2, 1), 5);
        C.due("it runs", x.range(5, 4), 1);
        C.due("keep all of them", x.keep(), 6);
        C.due("remove the first one", x.removeRange(0), 5);
        C.due("0 is the second one now", x.range(0, 1), 5);
        C.due("4 is the last one now", x.range(4, 0), 20);
        C.due("its place is free", x.addRange(0, 2, 3, 2), 5);
        C.due("the one ahead of it stays", x.range(4, 0), 20);
        x.freeze();
        C.due("freeze all of them", x.range(4, 6), 0);
        C.due("restore all of them", x.restore(), 6);
        C.due("the first one", x.range(0, 1), 1);
        C.due("the second one", x.range(1, 1), 5);
        C.due("the last one", x.range(5, 0), 20);
    }

    private static void setSpeed() {
        PaletteTurns x = new PaletteTurns();
        C.due("no range", x.setSpeed(0, 0, 0), PaletteTurns.UNKNOWN);
        x.addRange(3, 6, 4, 0);
        x.pass(9);
        C.due("number -1", x.setSpeed(-1, 1, 0), PaletteTurns.UNKNOWN);
        C.due("speed 0", x.setSpeed(0, 0, 0), PaletteTurns.OUT_OF_RANGE);
        C.due("speed 31", x.setSpeed(0, 31, 0), PaletteTurns.OUT_OF_RANGE);
        C.due("way 3", x.setSpeed(0, 1, 3), PaletteTurns.OUT_OF_RANGE);
        C.due("way -1", x.setSpeed(0, 1, -1), PaletteTurns.OUT_OF_RANGE);
        C.due("ticks stay after errors", x.range(0, 5), 1);
        x.run(0, false);
        C.due("previous speed", x.setSpeed(0, 30, 2), 4);
        C.due("speed", x.range(0, 2), 30);
        C.due("way", x.range(0, 3), 2);
        C.due("ticks", x.range(0, 5), 0);
        C.due("steps", x.range(0, 6), 0);
        C.due("it pauses as before", x.range(0, 4), 0);
        C.due("the steps so far stay", x.total(4), 2);
        int states = x.total(8);
        C.due("the same again is a change, too", x.setSpeed(0, 30, 2), 30);
        C.due("states", x.total(8), Math.min(4, states + 1));
    }

    private static void run() {
        PaletteTurns x = new PaletteTurns();
        C.due("no range", x.run(0, true), PaletteTurns.UNKNOWN);
        x.addRange(0, 1, 1, 0);
        x.addRange(2, 3, 1, 0);
        C.due("number -1", x.run(-1, true), PaletteTurns.UNKNOWN);
        C.due("number 2", x.run(2, false), PaletteTurns.UNKNOWN);
        C.due("runs already", x.run(1, true), PaletteTurns.NONE);
        C.due("states", x.total(8), 2);
        C.due("pause", x.run(1, false), 1);
        C.due("states", x.total(8), 3);
        C.due("pauses already", x.run(1, false), PaletteTurns.NONE);
        C.due("pause the other one", x.run(0, false), 0);
        C.due("time passes", x.pass(3), 0);
        C.due("run again", x.run(0, true), 1);
        C.due("running", x.total(1), 1);
        C.due("time passes", x.pass(3), 3);
        C.due("steps of the one that pauses", x.range(1, 6), 0);
    }

    private static void range() {
        PaletteTurns x = new PaletteTurns();
        C.due("no range", x.range(0, 0), PaletteTurns.UNKNOWN);
        C.due("no range before what", x.range(0, 99), PaletteTurns.UNKNOWN);
        x.addRange(5, 11, 3, 1);
        x.pass(7);
        int[] due = {5, 11, 3, 1, 1, 1, 2, 5};
        for (int what = 0; what < due.length; what++) {
            C.due("range(0, " + what + ")", x.range(0, what), due[what]);
        }
        C.due("what 8", x.range(0, 8), PaletteTurns.OUT_OF_RANGE);
        C.due("what -1", x.range(0, -1), PaletteTurns.OUT_OF_RANGE);
        C.due("what huge", x.range(0, Integer.MIN_VALUE), PaletteTurns.OUT_OF_RANGE);
        C.due("range -1", x.range(-1, 0), PaletteTurns.UNKNOWN);
        C.due("range 1", x.range(1, 0), PaletteTurns.UNKNOWN);
        x.run(0, false);
        C.due("pauses", x.range(0, 4), 0);
        C.due("ticks stay", x.range(0, 5), 1);
    }

    private static void turns() {
        int[][] due = {
            {0, 1, 2, 3, 0, 1, 2, 3, 0},
            {0, 3, 2, 1, 0, 3, 2, 1, 0},
            {0, 1, 2, 3, 2, 1, 0, 1, 2},
        };
        int[] colours = {11, 12, 13, 14};
        for (int way = 0; way < 3; way++) {
            PaletteTurns x = new PaletteTurns();
            for (int k = 0; k < 4; k++) {
                x.setColour(10 + k, colours[k]);
            }
            x.addRange(10, 13, 1, way);
            for (int step = 0; step < due[way].length; step++) {
                int turn = due[way][step];
                C.due("turn, way " + way + ", step " + step, x.range(0, 7), turn);
                for (int k = 0; k < 4; k++) {
                    C.due("turned, way " + way, x.shown(10 + k), colours[(k - turn + 4) % 4]);
                }
                x.pass(1);
            }
        }
        PaletteTurns two = new PaletteTurns();
        two.addRange(0, 1, 1, 2);
        for (int step = 0; step < 5; step++) {
            C.due("to and fro with two places", two.range(0, 7), step % 2);
            two.pass(1);
        }
    }
}
