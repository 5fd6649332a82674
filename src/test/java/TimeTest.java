/** Promises 11 to 14: pass, perform, type, clearText. */
final class TimeTest {
    private static final Checks C = new Checks("TimeTest");

    public static void main(String[] args) {
        pass();
        faults();
        faultsAtLength();
        perform();
        performUnknown();
        performFull();
        type();
        C.end();
    }

    private static void pass() {
        PaletteTurns x = new PaletteTurns();
        C.due("0 ticks", x.pass(0), PaletteTurns.OUT_OF_RANGE);
        C.due("-1 ticks", x.pass(-1), PaletteTurns.OUT_OF_RANGE);
        C.due("1001 ticks", x.pass(1001), PaletteTurns.OUT_OF_RANGE);
        C.due("no state", x.total(8), 0);
        C.due("without ranges", x.pass(1), 0);
        C.due("it is a change", x.total(8), 1);
        x.addRange(0, 1, 3, 0);
        x.addRange(2, 5, 4, 2);
        x.addRange(6, 7, 1, 1);
        x.run(2, false);
        C.due("two ranges that run", x.pass(11), 5);
        C.due("ticks 0", x.range(0, 5), 2);
        C.due("ticks 1", x.range(1, 5), 3);
        C.due("ticks 2", x.range(2, 5), 0);
        C.due("one tick more", x.pass(1), 2);
        C.due("ticks 0", x.range(0, 5), 0);
        C.due("ticks 1", x.range(1, 5), 0);
        C.due("1000 ticks", x.pass(1000), 333 + 250);
        C.due("ticks so far", x.total(3), 1013);
        C.due("steps so far", x.total(4), 590);
        x.undo();
        C.due("ticks so far after undo", x.total(3), 13);
        C.due("steps so far after undo", x.total(4), 7);
    }

    /** Each text with the index of its fault. */
    private static void faults() {
        String[] texts = {"", "t", "p", "k", "2", "2(", "2(t1", "2(2(t1)", "t0", "t01", "t12(", "t100", "t120", "t1(",
            "p6", "p(", "pp", "k9", "k/", "tt", "t:", "t/", "1(t1)", "0", "(t1)", ")", "t1)", "2()", "2(t1))", "2t1",
            "22(t1)", "x", "t1x", "p0x", "P0", "T1", "2[t1]", " t1", "t 1", "t1 ", "t999", "t123", "2(t1)0", "2(t1)1(",
            "2(x)", "2(2()", "p0t", "t1)2", "9(9(9(", "k0k", "t1,"};
        int[] faults = {0, 1, 1, 1, 1, 2, 4, 7, 1, 1, 3, 3, 3, 2,
            1, 1, 1, 1, 1, 1, 1, 1, 0, 0, 0, 0, 2, 2, 5, 1,
            1, 0, 2, 2, 0, 0, 1, 0, 1, 2, 4, 4, 5, 5,
            2, 4, 3, 2, 6, 3, 2};
        for (int i = 0; i < texts.length; i++) {
            PaletteTurns x = new PaletteTurns();
            x.addRange(0, 1, 1, 0);
            C.due("perform of '" + texts[i] + "'", Checks.perform(x, texts[i]), -100 - faults[i]);
            C.due("no state after a fault", x.total(8), 1);
            C.due("nothing passes", x.total(3), 0);
            C.due("the text stays", x.total(9), texts[i].length());
        }
        PaletteTurns x = new PaletteTurns();
        char[] odd = {0, 1, 127, 128, 255, 0x0662, 0x2070, 0xff12, 0xffff, 't' + 256};
        for (char sign : odd) {
            Checks.write(x, "t1");
            x.type(sign);
            C.due("sign " + (int) sign, x.perform(), -102);
        }
    }

    private static void faultsAtLength() {
        PaletteTurns x = new PaletteTurns();
        C.due("60 signs, all open", Checks.perform(x, "2(".repeat(30)), -160);
        C.due("60 signs, one open", Checks.perform(x, "2(" + "t1".repeat(29)), -160);
        C.due("60 signs, t at the end", Checks.perform(x, "t1".repeat(28) + "t99t"), -160);
        C.due("60 signs, the last one wrong", Checks.perform(x, "t1".repeat(29) + "t0"), -159);
        C.due("60 signs, right", Checks.perform(x, "t1".repeat(30)), 30);
        C.due("19 deep, too early", Checks.perform(x, "2(".repeat(19) + "t1" + ")".repeat(18)), -158);
        Checks.write(x, "t1");
        x.clearText();
        x.type('t');
        C.due("what was behind the end does not count", x.perform(), -101);
    }

    private static void perform() {
        PaletteTurns x = new PaletteTurns();
        C.due("one digit", Checks.perform(x, "t7"), 7);
        C.due("two digits", Checks.perform(x, "t99"), 99);
        C.due("3 begins a repeat", Checks.perform(x, "t123(t1)"), 15);
        C.due("repeats within repeats", Checks.perform(x, "2(4(t5)t3t1)"), 48);
        C.due("repeats side by side", Checks.perform(x, "2(t1)3(t2)t90"), 98);
        C.due("ticks so far", x.total(3), 7 + 99 + 15 + 48 + 98);
        C.due("states", x.total(8), 4);
        C.due("again, the text stays", x.perform(), 98);
        x.addRange(0, 4, 3, 0);
        x.addRange(5, 6, 2, 1);
        x.addGlow(9, 63, 10);
        C.due("no ticks", Checks.perform(x, "k0k0p1"), 0);
        C.due("steps", x.range(0, 6), 2);
        C.due("ticks", x.range(0, 5), 0);
        C.due("pauses", x.range(1, 4), 0);
        C.due("steps so far", x.total(4), 2);
        C.due("pause and go", Checks.perform(x, "3(t1p1t1)k1"), 6);
        C.due("it ran for three ticks", x.range(1, 6), 2);
        C.due("ticks of it", x.range(1, 5), 1);
        C.due("runs", x.range(1, 4), 1);
        C.due("the other one", x.range(0, 6), 4);
        C.due("the glow", x.glow(0, 3), 6);
        C.due("steps so far", x.total(4), 6);
        C.due("one undo", x.undo(), 3);
        C.due("takes all back", x.range(0, 6), 2);
        C.due("steps so far", x.total(4), 2);
        C.due("k of a range that pauses", Checks.perform(x, "k1"), 0);
        C.due("makes a step", x.range(1, 6), 1);
        C.due("p twice is a change all the same", Checks.perform(x, "2(p0)"), 0);
        C.due("states", x.total(8), 4);
    }

    private static void performUnknown() {
        PaletteTurns x = new PaletteTurns();
        C.due("p0 without a range", Checks.perform(x, "p0"), PaletteTurns.UNKNOWN);
        C.due("k5 behind a tick", Checks.perform(x, "t1k5"), PaletteTurns.UNKNOWN);
        x.addRange(0, 1, 1, 0);
        C.due("p0", Checks.perform(x, "p0"), 0);
        C.due("k1 within a repeat", Checks.perform(x, "p02(t1k1)p0"), PaletteTurns.UNKNOWN);
        C.due("nothing changed", x.range(0, 4), 0);
        C.due("no state", x.total(8), 2);
        C.due("unknown before too much", Checks.perform(x, "9(9(9(9(p1))))"), PaletteTurns.UNKNOWN);
        C.due("a fault before unknown", Checks.perform(x, "p1)"), -102);
        for (int i = 1; i < 6; i++) {
            x.addRange(2 * i, 2 * i + 1, 1, 0);
        }
        C.due("all six", Checks.perform(x, "p0p1p2p3p4p5k5"), 0);
        C.due("they pause, but the first one", x.total(1), 1);
        x.removeRange(0);
        C.due("it is gone", x.perform(), PaletteTurns.UNKNOWN);
    }

    private static void performFull() {
        PaletteTurns x = new PaletteTurns();
        x.addRange(0, 2, 30, 0);
        C.due("5000 ticks", Checks.perform(x, "5(5(5(8(t5))))"), 5000);
        C.due("5001 ticks", Checks.perform(x, "5(5(5(8(t5))))t1"), PaletteTurns.FULL);
        C.due("5000 items", Checks.perform(x, "5(5(5(8(k0k0k0k0k0))))"), 0);
        C.due("steps", x.range(0, 6), 5000 + 166);
        C.due("5001 items", Checks.perform(x, "5(5(5(8(k0k0k0k0k0))))k0"), PaletteTurns.FULL);
        C.due("5001 items, one of ticks", Checks.perform(x, "t995(5(5(8(k0k0k0k0k0))))"), PaletteTurns.FULL);
        C.due("19 deep", Checks.perform(x, "9(".repeat(19) + "t9" + ")".repeat(19)), PaletteTurns.FULL);
        C.due("19 deep, items", Checks.perform(x, "9(".repeat(19) + "k0" + ")".repeat(19)), PaletteTurns.FULL);
        C.due("12 deep", Checks.perform(x, "2(".repeat(12) + "t1" + ")".repeat(12)), 4096);
        C.due("13 deep", Checks.perform(x, "2(".repeat(13) + "t1" + ")".repeat(13)), PaletteTurns.FULL);
    }

    private static void type() {
        PaletteTurns x = new PaletteTurns();
        C.due("empty", x.clearText(), 0);
        char[] signs = {'t', 0, 65535, ' ', 'z', '\n'};
        for (int i = 0; i < 60; i++) {
            C.due("type", x.type(signs[i % signs.length]), i + 1);
        }
        C.due("60 signs", x.type('t'), PaletteTurns.FULL);
        C.due("length", x.total(9), 60);
        C.due("no change", x.total(8), 0);
        C.due("clear", x.clearText(), 60);
        C.due("length", x.total(9), 0);
        C.due("clear again", x.clearText(), 0);
        C.due("type again", x.type('t'), 1);
        C.due("no change", x.total(8), 0);
        x.setColour(0, 1);
        x.type('1');
        x.undo();
        C.due("undo leaves the text", x.total(9), 2);
        C.due("the text is as typed", x.perform(), 1);
    }
}
