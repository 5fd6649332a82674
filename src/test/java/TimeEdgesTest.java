/** Boundary cases of promises 11, 13 and 14: pass, type, clearText. */
final class TimeEdgesTest {
    private static final Edges E = new Edges("TimeEdgesTest");
    private static final int OUT_OF_RANGE = PaletteTurns.OUT_OF_RANGE;
    private static final int FULL = PaletteTurns.FULL;
    private static final String LONGEST = "t1".repeat(30);

    public static void main(String[] args) {
        pass();
        passAnswers();
        type();
        typeFull();
        clearText();
        E.end();
    }

    private static void pass() {
        E.test("Promise 11: ticks 1 to 1000", x -> {
            x.addRange(0, 1, 1, 0);
            E.due("pass(1)", x.pass(1), 1);
            E.due("pass(1000)", x.pass(1000), 1000);
            E.due("ticks so far", x.total(3), 1001);
            E.outside(1, 1000, "ticks", Edges.NEW, PaletteTurns::pass, OUT_OF_RANGE);
            E.outside(1, 1000, "ticks", Edges.RICH, PaletteTurns::pass, OUT_OF_RANGE);
        });
        E.test("Promise 11: this is a change, also if nothing is there that moves", x -> {
            E.recorded("pass when new", Edges.NEW, y -> y.pass(1), 0);
            E.recorded("pass when rich", Edges.RICH, y -> y.pass(1000), 250);
        });
        E.test("Promise 11: also if all is then as it was", x ->
            E.recorded("a full turn", y -> y.addRange(0, 1, 1, 0), y -> y.pass(2), 2));
    }

    private static void passAnswers() {
        E.test("Promise 11: how many steps all ranges together make by that, none", x -> {
            E.due("without ranges", x.pass(1000), 0);
            x.addRange(0, 1, 30, 0);
            E.due("one tick less than the speed", x.pass(29), 0);
            E.due("and this one", x.pass(1), 1);
            x.run(0, false);
            E.due("a range that pauses", x.pass(1000), 0);
        });
        E.test("Promise 11: how many steps all ranges together make by that, the most", x -> {
            for (int range = 0; range < 6; range++) {
                x.addRange(2 * range, 2 * range + 1, 1, range % 3);
            }
            E.due("six of the speed 1", x.pass(1000), 6000);
        });
        E.test("Promise 11: only the steps made by that", x -> {
            x.addRange(0, 1, 3, 0);
            E.due("pass(4)", x.pass(4), 1);
            E.due("pass(4)", x.pass(4), 1);
            E.due("pass(4)", x.pass(4), 2);
        });
    }

    private static void type() {
        E.test("Terms, programs: a text, empty at first", x -> {
            E.due("total(9)", x.total(9), 0);
            E.due("clearText()", x.clearText(), 0);
            E.due("type", x.type('t'), 1);
        });
        E.test("Promise 13: the length of the text then, 1 to 60", x -> {
            for (int length = 1; length <= 60; length++) {
                E.due("type", x.type('t'), length);
            }
        });
        char[] any = {0, 1, ' ', 127, 128, 255, 256, 0x7fff, 0x8000, 0xffff};
        for (char character : any) {
            E.test("Promise 13: any character, " + (int) character, x -> {
                Checks.write(x, "t1");
                E.due("type", x.type(character), 3);
                E.due("it is at its place", x.perform(), -102);
                E.due("behind it", x.type('t'), 4);
            });
        }
        for (char allowed : "t1p0k2()".toCharArray()) {
            E.test("Promise 13: any character, not '" + allowed + "' for one whose last bits are the same", x -> {
                String text = "t1p0k02(t1)";
                x.addRange(0, 1, 1, 0);
                for (int added = 128; added <= 0x8000; added *= 2) {
                    int index = text.indexOf(allowed);
                    Checks.write(x, text.substring(0, index) + (char) (allowed + added) + text.substring(index + 1));
                    E.due("perform() with " + (allowed + added), x.perform(), -100 - index);
                }
            });
        }
        E.test("Promise 13: appends, it doesn't take the place of another one", x -> {
            Checks.write(x, "t12(");
            E.due("the fault stays where it is", x.perform(), -103);
            x.type('t');
            E.due("the fault stays where it is", x.perform(), -103);
        });
        E.test("Promise 13: this is no change", x -> {
            E.leavesHistory("type when new", Edges.NEW, y -> y.type('t'), 1);
            E.leavesHistory("type when rich", Edges.RICH, y -> y.type('t'), 7);
            E.leavesSnapshot("type when rich", Edges.RICH, y -> y.type('t'), 7);
        });
    }

    private static void typeFull() {
        E.test("Promise 13: FULL if it has 60 characters", x -> {
            E.leavesAll("a character that would be allowed", y -> Checks.write(y, LONGEST), y -> y.type('t'), FULL);
            E.leavesAll("any character", y -> Checks.write(y, LONGEST), y -> y.type((char) 0), FULL);
        });
        E.test("Promise 13: the text is as it was behind FULL", x -> {
            Checks.write(x, LONGEST);
            x.type('t');
            E.due("length", x.total(9), 60);
            E.due("perform()", x.perform(), 30);
        });
        E.test("Promise 13: there is room again when the text is emptied", x -> {
            Checks.write(x, LONGEST);
            x.clearText();
            E.due("type", x.type('t'), 1);
        });
    }

    private static void clearText() {
        E.test("Promise 14: the length that it had, 0 to 60", x -> {
            E.due("of an empty text", x.clearText(), 0);
            x.type('t');
            E.due("of one character", x.clearText(), 1);
            Checks.write(x, LONGEST);
            E.due("of the longest text", x.clearText(), 60);
            E.due("of the text that was emptied", x.clearText(), 0);
        });
        E.test("Promise 14: empties the text", x -> {
            Checks.write(x, "t1t2");
            x.clearText();
            E.due("total(9)", x.total(9), 0);
            E.due("the fault of the empty text", x.perform(), -100);
            x.type('t');
            E.due("nothing is left of the earlier one", x.perform(), -101);
            x.type('5');
            E.due("the new one", x.perform(), 5);
        });
        E.test("Promise 14: this is no change", x -> {
            E.leavesHistory("clearText when new", Edges.NEW, PaletteTurns::clearText, 0);
            E.leavesHistory("clearText when rich", Edges.RICH, PaletteTurns::clearText, 6);
            E.leavesSnapshot("clearText when rich", Edges.RICH, PaletteTurns::clearText, 6);
        });
    }
}
