/** Boundary cases of 'Terms', history and errors, and of promises 17 to 19: undo, keep, restore. */
final class HistoryEdgesTest {
    private static final Edges E = new Edges("HistoryEdgesTest");
    private static final int NONE = PaletteTurns.NONE;

    public static void main(String[] args) {
        atMostFour();
        whatIsNoChange();
        stateIsEverything();
        notTheText();
        notTheHistory();
        notTheSnapshot();
        errors();
        undo();
        keep();
        restore();
        E.end();
    }

    private static void atMostFour() {
        E.test("Terms, history: empty at first", x -> {
            E.due("total(8)", x.total(8), 0);
            E.due("undo()", x.undo(), NONE);
        });
        E.test("Terms, history: at most 4 states", x -> {
            for (int colour = 1; colour <= 6; colour++) {
                x.setColour(0, colour);
                E.due("states behind " + colour + " changes", x.total(8), Math.min(4, colour));
            }
        });
        E.test("Terms, history: with 4 changes nothing is dropped", x -> {
            for (int colour = 1; colour <= 4; colour++) {
                x.setColour(0, colour);
            }
            for (int left = 3; left >= 0; left--) {
                E.due("undo()", x.undo(), left);
                E.due("colour(0)", x.colour(0), left);
            }
            E.due("undo()", x.undo(), NONE);
        });
        E.test("Terms, history: if there are 4 already, the oldest one is dropped", x -> {
            for (int colour = 1; colour <= 5; colour++) {
                x.setColour(0, colour);
            }
            for (int left = 3; left >= 0; left--) {
                E.due("undo()", x.undo(), left);
                E.due("colour(0)", x.colour(0), left + 1);
            }
            E.due("undo()", x.undo(), NONE);
            E.due("colour(0)", x.colour(0), 1);
        });
        E.test("Terms, history: the oldest ones are dropped, one with each change", x -> {
            for (int colour = 1; colour <= 11; colour++) {
                x.setColour(0, colour);
            }
            for (int left = 3; left >= 0; left--) {
                E.due("undo()", x.undo(), left);
                E.due("colour(0)", x.colour(0), left + 7);
            }
        });
        E.test("Terms, history: states of changes behind an undo", x -> {
            for (int colour = 1; colour <= 5; colour++) {
                x.setColour(0, colour);
            }
            x.undo();
            x.undo();
            x.setColour(0, 60);
            x.setColour(0, 61);
            int[] due = {60, 3, 2, 1};
            for (int left = 3; left >= 0; left--) {
                E.due("undo()", x.undo(), left);
                E.due("colour(0)", x.colour(0), due[3 - left]);
            }
        });
    }

    private static void whatIsNoChange() {
        E.test("Terms, history: a method that is not described as a change records nothing, keep", x -> {
            E.leavesHistory("when new", Edges.NEW, PaletteTurns::keep, 0);
            E.leavesHistory("when rich", Edges.RICH, PaletteTurns::keep, 2);
        });
        E.test("Terms, history: a method that is not described as a change records nothing, type and clearText", x -> {
            E.leavesHistory("type", Edges.RICH, y -> y.type('t'), 7);
            E.leavesHistory("clearText", Edges.RICH, PaletteTurns::clearText, 6);
        });
        E.test("Terms, history: a method that is not described as a change records nothing, undo", x -> {
            x.setColour(0, 1);
            x.setColour(0, 2);
            x.undo();
            E.due("one state is left", x.total(8), 1);
            E.due("no way back", x.undo(), 0);
            E.due("colour(0)", x.colour(0), 0);
        });
    }

    private static void stateIsEverything() {
        E.test("Terms, history: the state is everything, with the ticks and the steps so far", x -> {
            x.pass(7);
            x.addRange(0, 1, 1, 0);
            x.pass(5);
            x.undo();
            E.due("ticks so far", x.total(3), 7);
            E.due("steps so far", x.total(4), 0);
            x.undo();
            x.undo();
            E.due("ticks so far", x.total(3), 0);
        });
        E.test("Terms, history: the state is everything, with the ticks and the steps so far of the snapshot", x -> {
            x.addRange(0, 1, 1, 0);
            x.pass(7);
            x.keep();
            x.pass(5);
            x.restore();
            E.due("ticks so far", x.total(3), 7);
            E.due("steps so far", x.total(4), 7);
            x.undo();
            E.due("ticks so far", x.total(3), 12);
            E.due("steps so far", x.total(4), 12);
        });
        E.test("Terms, history: the state is everything of a range", x -> {
            x.addRange(2, 6, 3, 1);
            x.pass(4);
            x.run(0, false);
            x.keep();
            x.removeRange(0);
            x.addRange(9, 10, 5, 2);
            x.restore();
            int[] due = {2, 6, 3, 1, 0, 1, 1, 4};
            for (int what = 0; what < 8; what++) {
                E.due("range(0, " + what + ") behind restore", x.range(0, what), due[what]);
            }
            x.undo();
            x.undo();
            x.undo();
            for (int what = 0; what < 8; what++) {
                E.due("range(0, " + what + ") behind undo", x.range(0, what), due[what]);
            }
        });
        E.test("Terms, history: the state is everything of a glow", x -> {
            x.addGlow(2, 77, 3);
            x.pass(4);
            x.keep();
            x.removeGlow(0);
            x.addGlow(9, 10, 5);
            x.restore();
            int[] due = {2, 77, 3, 4, 2};
            for (int what = 0; what < 5; what++) {
                E.due("glow(0, " + what + ") behind restore", x.glow(0, what), due[what]);
            }
            x.undo();
            x.undo();
            x.undo();
            for (int what = 0; what < 5; what++) {
                E.due("glow(0, " + what + ") behind undo", x.glow(0, what), due[what]);
            }
        });
        E.test("Terms, history: the state is everything, the first and the last place and pixel", x -> {
            x.setColour(0, 5);
            x.setColour(31, 6);
            x.paint(0, 0, 1);
            x.paint(7, 7, 2);
            x.keep();
            x.blend(0, 31, 9, 9);
            x.paint(0, 0, 3);
            x.paint(7, 7, 3);
            x.restore();
            E.due("colour(0)", x.colour(0), 5);
            E.due("colour(31)", x.colour(31), 6);
            E.due("pixel(0, 0)", x.pixel(0, 0, false), 1);
            E.due("pixel(7, 7)", x.pixel(7, 7, false), 2);
            x.undo();
            E.due("pixel(7, 7) behind undo", x.pixel(7, 7, false), 3);
            x.undo();
            x.undo();
            x.undo();
            E.due("colour(0) behind undo", x.colour(0), 5);
            E.due("colour(31) behind undo", x.colour(31), 6);
            E.due("pixel(0, 0) behind undo", x.pixel(0, 0, false), 1);
        });
        E.test("Terms, history: the full state, 6 ranges and 4 glows", HistoryEdgesTest::fullState);
    }

    private static void fullState(PaletteTurns x) {
        for (int i = 0; i < 6; i++) {
            x.addRange(5 * i, 5 * i + 2, i + 2, 0);
        }
        for (int i = 0; i < 4; i++) {
            x.addGlow(5 * i + 4, i, i + 9);
        }
        x.pass(3);
        x.keep();
        x.removeRange(0);
        x.removeGlow(0);
        x.pass(1);
        x.restore();
        seesFull("behind restore", x);
        for (int left = 3; left >= 0; left--) {
            E.due("undo()", x.undo(), left);
        }
        seesFull("behind undo", x);
    }

    private static void seesFull(String when, PaletteTurns x) {
        E.due("ranges " + when, x.total(0), 6);
        E.due("the last one's speed " + when, x.range(5, 2), 7);
        E.due("the last one's ticks " + when, x.range(5, 5), 3);
        E.due("glows " + when, x.total(2), 4);
        E.due("the last one's length " + when, x.glow(3, 2), 12);
        E.due("the last one's ticks " + when, x.glow(3, 3), 3);
    }

    private static void notTheText() {
        E.test("Terms, history: except the text, undo", x -> {
            x.type('t');
            x.setColour(0, 5);
            x.type('7');
            x.undo();
            E.due("total(9)", x.total(9), 2);
            E.due("perform()", x.perform(), 7);
        });
        E.test("Terms, history: except the text, undo when it was emptied", x -> {
            Checks.write(x, "t7");
            x.setColour(0, 5);
            x.clearText();
            x.undo();
            E.due("total(9)", x.total(9), 0);
            E.due("perform()", x.perform(), -100);
        });
        E.test("Terms, history: except the text, restore", x -> {
            Checks.write(x, "t7");
            x.keep();
            Checks.write(x, "t12");
            x.restore();
            E.due("total(9)", x.total(9), 3);
            E.due("perform()", x.perform(), 12);
        });
    }

    private static void notTheHistory() {
        E.test("Terms, history: except the history, restore", x -> {
            x.setColour(0, 1);
            x.keep();
            x.setColour(0, 2);
            x.restore();
            E.due("total(8)", x.total(8), 3);
            E.due("undo()", x.undo(), 2);
            E.due("colour(0)", x.colour(0), 2);
            E.due("undo()", x.undo(), 1);
            E.due("colour(0)", x.colour(0), 1);
            E.due("undo()", x.undo(), 0);
            E.due("colour(0)", x.colour(0), 0);
        });
        E.test("Terms, history: except the history, restore of a state with a full one", x -> {
            for (int colour = 1; colour <= 5; colour++) {
                x.setColour(0, colour);
            }
            x.keep();
            for (int undo = 0; undo < 4; undo++) {
                x.undo();
            }
            x.restore();
            E.due("total(8)", x.total(8), 1);
            E.due("undo()", x.undo(), 0);
            E.due("colour(0)", x.colour(0), 1);
        });
    }

    private static void notTheSnapshot() {
        E.test("Terms, history: one snapshot, empty at first", x -> {
            E.due("restore()", x.restore(), NONE);
            x.setColour(0, 1);
            E.due("restore() with a state in the history", x.restore(), NONE);
        });
        E.test("Terms, history: except the snapshot, undo of what was before it", x -> {
            x.setColour(0, 1);
            x.keep();
            x.undo();
            E.due("colour(0)", x.colour(0), 0);
            E.due("restore()", x.restore(), 0);
            E.due("colour(0)", x.colour(0), 1);
        });
        E.test("Terms, history: except the snapshot, changes behind it", x -> {
            x.addRange(0, 3, 2, 0);
            x.addGlow(0, 5, 3);
            x.keep();
            x.pass(5);
            x.run(0, false);
            x.removeGlow(0);
            x.restore();
            E.due("ticks of the range", x.range(0, 5), 0);
            E.due("it runs", x.range(0, 4), 1);
            E.due("glows", x.total(2), 1);
            E.due("ticks of the glow", x.glow(0, 3), 0);
        });
        E.test("Terms, history: except the snapshot, changes behind restore", x -> {
            x.setColour(0, 1);
            x.addRange(0, 3, 2, 0);
            x.keep();
            x.restore();
            x.setColour(0, 2);
            x.pass(5);
            x.restore();
            E.due("colour(0)", x.colour(0), 1);
            E.due("ticks", x.range(0, 5), 0);
            E.due("steps", x.range(0, 6), 0);
        });
        E.test("Terms, history: changes behind undo leave the states that are left", x -> {
            x.setColour(0, 1);
            x.addRange(0, 3, 2, 0);
            x.pass(1);
            x.undo();
            x.pass(2);
            x.undo();
            E.due("ticks", x.range(0, 5), 0);
            E.due("steps", x.range(0, 6), 0);
            x.undo();
            E.due("ranges", x.total(0), 0);
            E.due("colour(0)", x.colour(0), 1);
        });
    }

    /** Each refusal by itself stands with its promise; here, several in a row. */
    private static void errors() {
        E.test("Terms, errors: a method that returns an error changes nothing, all of them in a row", x -> {
            E.leavesAll("when new", Edges.NEW, HistoryEdgesTest::allErrors, -1);
            E.leavesAll("when rich", Edges.RICH, HistoryEdgesTest::allErrors, -1);
        });
        E.test("Terms, errors: a method that returns NONE changes nothing, all of them in a row", x -> {
            E.leavesAll("when rich", Edges.RICH, y -> {
                y.setColour(13, 777);
                y.blend(4, 9, 262143, 0);
                y.run(0, true);
                y.paint(3, 3, 7);
                y.fill(3, 3, 7);
                return y.setColour(13, 777);
            }, NONE);
        });
    }

    private static int allErrors(PaletteTurns y) {
        y.setColour(0, -1);
        y.blend(3, 3, 0, 1);
        y.addRange(5, 5, 1, 1);
        y.removeRange(6);
        y.setSpeed(0, 0, 0);
        y.run(6, true);
        y.addGlow(0, 0, 0);
        y.removeGlow(4);
        y.pass(0);
        y.paint(0, 0, 32);
        y.fill(0, 0, 32);
        return y.shown(32);
    }

    private static void undo() {
        E.test("Promise 17: NONE if the history is empty", x -> {
            E.leavesAll("when new", Edges.NEW, PaletteTurns::undo, NONE);
            E.leavesAll("when all is undone", y -> {
                Edges.RICH.on(y);
                for (int undo = 0; undo < 4; undo++) {
                    y.undo();
                }
            }, PaletteTurns::undo, NONE);
        });
        E.test("Promise 17: how many states are left, 3 to 0", x -> {
            PaletteTurns rich = Edges.made(Edges.RICH);
            for (int left = 3; left >= 0; left--) {
                E.due("undo()", rich.undo(), left);
                E.due("total(8)", rich.total(8), left);
            }
            E.due("undo()", rich.undo(), NONE);
        });
        E.test("Promise 17: 0 is left of one, and this is no NONE", x -> {
            x.setColour(0, 5);
            E.due("undo()", x.undo(), 0);
            E.due("colour(0)", x.colour(0), 0);
        });
        E.test("Promise 17: the latest state", x -> {
            x.setColour(0, 5);
            x.setColour(0, 6);
            x.undo();
            E.due("colour(0)", x.colour(0), 5);
        });
        E.test("Promise 17: and removes it from there", x -> {
            x.setColour(0, 5);
            x.setColour(0, 6);
            x.undo();
            x.undo();
            E.due("colour(0)", x.colour(0), 0);
            E.due("undo()", x.undo(), NONE);
        });
        E.test("Promise 17: the text and the snapshot stay", x -> {
            PaletteTurns rich = Edges.made(Edges.RICH);
            rich.undo();
            E.due("total(9)", rich.total(9), 6);
            E.due("restore()", rich.restore(), 2);
            E.due("no tick had passed then", rich.total(3), 0);
            E.due("the place 13 was not set then", rich.colour(13), 0);
        });
    }

    private static void keep() {
        E.test("Promise 18: how many ranges there are, 0 to 6", x -> {
            for (int range = 0; range <= 6; range++) {
                E.due("keep()", x.keep(), range);
                x.addRange(2 * range, 2 * range + 1, 1, 0);
            }
        });
        E.test("Promise 18: a snapshot of the state when new", x -> {
            x.keep();
            x.setColour(0, 5);
            E.due("restore()", x.restore(), 0);
            E.due("colour(0)", x.colour(0), 0);
        });
        E.test("Promise 18: in place of an earlier one", x -> {
            x.keep();
            x.setColour(0, 5);
            x.keep();
            x.setColour(0, 6);
            x.restore();
            E.due("colour(0)", x.colour(0), 5);
            x.undo();
            x.undo();
            x.undo();
            x.restore();
            E.due("the earlier one is gone", x.colour(0), 5);
        });
        E.test("Promise 18: in place of an earlier one with more ranges and glows", x -> {
            x.addRange(0, 1, 1, 0);
            x.addGlow(0, 1, 1);
            x.keep();
            x.removeRange(0);
            x.removeGlow(0);
            E.due("keep()", x.keep(), 0);
            E.due("restore()", x.restore(), 0);
            E.due("glows", x.total(2), 0);
        });
        E.test("Promise 18: history and text stay", x -> {
            E.leavesHistory("keep when rich", Edges.RICH, PaletteTurns::keep, 2);
            E.leavesText("keep when rich", Edges.RICH, PaletteTurns::keep, 2);
        });
    }

    private static void restore() {
        E.test("Promise 19: NONE if there is no snapshot", x -> {
            E.leavesAll("when new", Edges.NEW, PaletteTurns::restore, NONE);
            E.leavesAll("with a history", y -> {
                y.addRange(0, 3, 2, 0);
                y.pass(3);
                y.setColour(0, 5);
            }, PaletteTurns::restore, NONE);
        });
        E.test("Promise 19: how many ranges there are then, 0 and 6", x -> {
            x.keep();
            for (int range = 0; range < 6; range++) {
                x.addRange(2 * range, 2 * range + 1, 1, 0);
            }
            E.due("restore()", x.restore(), 0);
            E.due("total(0)", x.total(0), 0);
            x.undo();
            x.keep();
            x.removeRange(3);
            E.due("restore()", x.restore(), 6);
            E.due("total(0)", x.total(0), 6);
        });
        E.test("Promise 19: which stays", x -> {
            x.setColour(0, 5);
            x.keep();
            for (int colour = 6; colour < 9; colour++) {
                x.setColour(0, colour);
                E.due("restore()", x.restore(), 0);
                E.due("colour(0)", x.colour(0), 5);
            }
        });
        E.test("Promise 19: this is a change", x -> {
            E.recorded("restore when rich", Edges.RICH, PaletteTurns::restore, 2);
            E.recorded("restore of a state as it is", PaletteTurns::keep, PaletteTurns::restore, 0);
        });
    }
}
