/** Boundary cases of 'Terms', programs, and of promise 12: perform. */
final class ProgramEdgesTest {
    private static final Edges E = new Edges("ProgramEdgesTest");
    private static final int UNKNOWN = PaletteTurns.UNKNOWN;
    private static final int FULL = PaletteTurns.FULL;

    public static void main(String[] args) {
        list();
        ticks();
        digitsOfTicks();
        pauses();
        steps();
        repeats();
        brackets();
        tooEarly();
        firstFault();
        longest();
        unknown();
        fullTicks();
        fullItems();
        fullFarBeyond();
        order();
        oneChange();
        E.end();
    }

    /** Each text with what is answered on an object with two ranges. */
    private static void texts(String sentence, Object... textsAndAnswers) {
        for (int i = 0; i < textsAndAnswers.length; i += 2) {
            String text = (String) textsAndAnswers[i];
            int due = (Integer) textsAndAnswers[i + 1];
            E.test(sentence, x -> {
                x.addRange(0, 2, 1, 0);
                x.addRange(3, 4, 1, 0);
                E.due("perform() of '" + text + "'", Checks.perform(x, text), due);
                E.due("the text stays, '" + text + "'", x.total(9), text.length());
            });
        }
    }

    /** A text that is refused, and behind it everything as it was. */
    private static void refused(String sentence, String text, long due) {
        E.test(sentence, x -> {
            E.leavesAll("'" + text + "' when new", y -> Checks.write(y, text), PaletteTurns::perform, due);
            E.leavesAll("'" + text + "' when rich", y -> {
                Edges.RICH.on(y);
                Checks.write(y, text);
            }, PaletteTurns::perform, due);
        });
    }

    private static void list() {
        texts("Terms, programs: one or more items, one", "t1", 1, "p0", 0, "k0", 0, "2(t1)", 2);
        texts("Terms, programs: one or more items, several", "t1t1", 2, "p0k0t1", 1, "2(t1)2(t1)", 4, "t12(t1)t1", -103);
        texts("Terms, programs: one or more items, none", "", -100, "2()", -102, "2(2())", -104, "t12(2())", -103);
        texts("Terms, programs: with nothing between them", "t1 t1", -102, "t1,t1", -102, "t1;", -102, " t1", -100,
            "p0 ", -102, "2(t1 t1)", -104, "2( t1)", -102, "2 (t1)", -101, "t 1", -101);
        texts("Terms, programs: small letters alone", "T1", -100, "P0", -100, "K0", -100);
    }

    private static void ticks() {
        texts("Terms, programs: a number from 1 to 99", "t1", 1, "t9", 9, "t10", 10, "t11", 11, "t19", 19, "t90", 90,
            "t98", 98, "t99", 99);
        texts("Terms, programs: 0 is no number from 1 to 99", "t0", -101, "t0t1", -101);
        texts("Terms, programs: 100 is no number from 1 to 99", "t100", -103, "t100t1", -103);
        texts("Terms, programs: what stands beside the digits is no digit", "t/", -101, "t:", -101, "t1/", -102, "t1:", -102);
    }

    private static void digitsOfTicks() {
        texts("Terms, programs: no zeros ahead of other digits", "t01", -101, "t09", -101, "t00", -101);
        texts("Terms, programs: as many of the digits as it can", "t12(", -103, "t12(t1)", -103, "t99(t1)", -103, "t10(t1)", -103);
        texts("Terms, programs: one digit, and no bracket behind it", "t1(", -102, "t2(t1)", -102);
        texts("Terms, programs: two at most, the third begins a repeat", "t123(t1)", 15, "t992(t1)", 101, "t109(t1)", 19);
        texts("Terms, programs: two at most, the third begins a repeat that ends too early", "t123", -104, "t123(", -105);
        texts("Terms, programs: two at most, and no repeat begins with 0 or 1", "t120", -103, "t121", -103, "t121(t1)", -103);
    }

    private static void pauses() {
        texts("Terms, programs: p and a digit from 0 to 5, two ranges are there", "p0", 0, "p1", 0, "p5", UNKNOWN);
        texts("Terms, programs: p and no other digit", "p6", -101, "p9", -101, "p/", -101, "p:", -101, "pp0", -101, "p(", -101);
        texts("Terms, programs: p and one digit", "p00", -102, "p01", -102, "p1t1", 1, "p02(t1)", 2);
        E.test("Terms, programs: the range pauses if it runs, and runs if it pauses", x -> {
            x.addRange(0, 1, 1, 0);
            Checks.perform(x, "p0");
            E.due("it pauses", x.range(0, 4), 0);
            x.perform();
            E.due("it runs", x.range(0, 4), 1);
            Checks.perform(x, "2(p0)");
            E.due("twice", x.range(0, 4), 1);
            Checks.perform(x, "3(p0)");
            E.due("three times", x.range(0, 4), 0);
        });
        E.test("Terms, programs: p leaves ticks and steps, and other ranges", x -> {
            x.addRange(0, 2, 3, 0);
            x.addRange(3, 5, 3, 0);
            x.pass(4);
            Checks.perform(x, "p0");
            E.due("ticks", x.range(0, 5), 1);
            E.due("steps", x.range(0, 6), 1);
            E.due("the other one runs", x.range(1, 4), 1);
        });
        E.test("Terms, programs: time stands for a range from its p to the next one", x -> {
            x.addRange(0, 1, 1, 0);
            E.due("perform()", Checks.perform(x, "t2p0t3p0t4"), 9);
            E.due("steps", x.range(0, 6), 6);
        });
    }

    private static void steps() {
        texts("Terms, programs: k and a digit from 0 to 5, two ranges are there", "k0", 0, "k1", 0, "k5", UNKNOWN);
        texts("Terms, programs: k and no other digit", "k6", -101, "k9", -101, "k/", -101, "k:", -101, "kk0", -101, "k(", -101);
        texts("Terms, programs: k and one digit", "k00", -102, "k01", -102, "k1t1", 1, "k02(t1)", 2);
        E.test("Terms, programs: a step at once: its steps become more by 1, its ticks stay", x -> {
            x.addRange(0, 2, 3, 0);
            x.addRange(3, 5, 3, 0);
            x.pass(2);
            Checks.perform(x, "k0");
            E.due("ticks", x.range(0, 5), 2);
            E.due("steps", x.range(0, 6), 1);
            E.due("turn", x.range(0, 7), 1);
            E.due("steps of the other one", x.range(1, 6), 0);
            E.due("steps so far", x.total(4), 1);
            E.due("the next tick makes one", x.pass(1), 2);
        });
        E.test("Terms, programs: a step at once, also of a range that pauses", x -> {
            x.addRange(0, 2, 3, 0);
            Checks.perform(x, "p0k0");
            E.due("steps", x.range(0, 6), 1);
            E.due("it still pauses", x.range(0, 4), 0);
        });
        E.test("Terms, programs: the step by which the turn begins again", x -> {
            x.addRange(0, 2, 3, 0);
            Checks.perform(x, "k0k0");
            E.due("the last turn", x.range(0, 7), 2);
            Checks.perform(x, "k0");
            E.due("the first turn", x.range(0, 7), 0);
        });
    }

    private static void repeats() {
        texts("Terms, programs: a digit from 2 to 9, so many times", "2(t1)", 2, "3(t1)", 3, "8(t1)", 8, "9(t1)", 9);
        texts("Terms, programs: 0 and 1 begin no repeat", "0(t1)", -100, "1(t1)", -100, "2(t1)1(t1)", -105, "2(1(t1))", -102);
        texts("Terms, programs: one digit begins a repeat", "22(t1)", -101, "10(t1)", -100, "92(t1)", -101);
        texts("Terms, programs: what stands beside the digits begins no repeat", ":(t1)", -100, "/(t1)", -100);
        E.test("Terms, programs: the program is carried out so many times, all of it", x -> {
            x.addRange(0, 2, 1, 0);
            E.due("2(t1k0)", Checks.perform(x, "2(t1k0)"), 2);
            E.due("steps", x.range(0, 6), 4);
            E.due("9(k0k0)k0", Checks.perform(x, "9(k0k0)k0"), 0);
            E.due("steps", x.range(0, 6), 23);
        });
        E.test("Terms, programs: repeats within repeats, as many times each time", x -> {
            x.addRange(0, 2, 30, 0);
            E.due("2(3(k0)k0)", Checks.perform(x, "2(3(k0)k0)"), 0);
            E.due("steps", x.range(0, 6), 8);
            E.due("2(3(4(t1)t1)t1)", Checks.perform(x, "2(3(4(t1)t1)t1)"), 32);
        });
    }

    private static void brackets() {
        texts("Terms, programs: '(' behind the digit", "2t1", -101, "2)", -101, "2[t1]", -101, "2k0", -101);
        texts("Terms, programs: ')' at the end", "2(t1", -104, "2(t1]", -104, "2(2(t1)", -107, "2(2(t1))", 4);
        texts("Terms, programs: ')' without a repeat", ")", -100, "t1)", -102, "2(t1))", -105, "2(t1)t1)", -107);
        texts("Terms, programs: '(' without a digit", "(t1)", -100, "t1t(", -103, "2((t1))", -102, "p0(t1)", -102);
    }

    private static void tooEarly() {
        texts("Terms, programs: the length of the text if it ends too early (the empty text does)", "", -100);
        texts("Terms, programs: the length of the text if it ends too early", "t", -101, "p", -101, "k", -101, "2", -101,
            "9", -101, "2(", -102, "2(t", -103, "2(t1", -104, "2(t12", -105, "2(p0", -104, "t1t", -103, "t1p", -103,
            "t1k", -103, "t12", 12, "t1p02", -105, "2(t1)3", -106, "2(3(", -104, "2(3(t1)", -107);
    }

    private static void firstFault() {
        texts("Terms, programs: the first character that is not allowed, at 0", "x", -100, "xt1", -100, "00", -100, "((", -100);
        texts("Terms, programs: the first character that is not allowed, not a later one", "t1xx", -102, "tx0", -101,
            "p6)", -101, "k0)t0", -102, "2(x)x", -102, "2x2x", -101);
        texts("Terms, programs: the first character that is not allowed, ahead of an end too early", "2(t1x", -104, "2(tx", -103);
        refused("Promise 12: a fault changes nothing, the empty text", "", -100);
        refused("Promise 12: a fault changes nothing, behind items that could be carried out", "t5p0k0x", -106);
        refused("Promise 12: a fault changes nothing, at the end", "t992(k0", -107);
    }

    private static void longest() {
        String sentence = "Terms, programs: a text of 60 characters";
        texts(sentence + ", right", "t1".repeat(30), 30, "t99".repeat(20), 1980, "2(" + "t9".repeat(28) + "t)", -159);
        texts(sentence + ", the fault at the last one", "t1".repeat(29) + "t0", -159, "t1".repeat(29) + "1x", -159,
            "t99".repeat(19) + "t1)", -159);
        texts(sentence + ", that ends too early", "2(".repeat(30), -160, "2(" + "t1".repeat(29), -160, "p0".repeat(29) + "t9", 9,
            "p0".repeat(28) + "t99t", -160, "t1".repeat(28) + "t993", -160);
        texts(sentence + ", the deepest repeats", "2(".repeat(19) + "k09" + ")".repeat(19), -141,
            "2(".repeat(19) + "t99" + ")".repeat(18) + "x", -159, "2(".repeat(19) + "t99" + ")".repeat(19), FULL);
        E.test("Terms, programs: what stood behind the end of the text doesn't count", x -> {
            x.addRange(0, 1, 1, 0);
            Checks.write(x, "2(t1)");
            Checks.write(x, "2(");
            E.due("perform()", x.perform(), -102);
            Checks.write(x, "t12");
            Checks.write(x, "t1");
            E.due("perform()", x.perform(), 1);
        });
    }

    private static void unknown() {
        for (int number = 0; number < 6; number++) {
            int ranges = number;
            E.test("Promise 12: UNKNOWN if it names a range that there is not, " + ranges + " ranges", x -> {
                for (int range = 0; range < ranges; range++) {
                    x.addRange(2 * range, 2 * range + 1, 1, 0);
                }
                E.due("k", Checks.perform(x, "k" + ranges), UNKNOWN);
                E.due("p", Checks.perform(x, "p" + ranges), UNKNOWN);
                E.due("states", x.total(8), Math.min(4, ranges));
                x.addRange(30, 31, 1, 0);
                E.due("p when it is there", x.perform(), 0);
                E.due("k when it is there", Checks.perform(x, "k" + ranges), 0);
            });
        }
        refused("Promise 12: UNKNOWN changes nothing, named first", "p2t5", UNKNOWN);
        refused("Promise 12: UNKNOWN changes nothing, named last", "t5t5k2", UNKNOWN);
        refused("Promise 12: UNKNOWN changes nothing, named within repeats", "t992(t993(k5t1)t1)", UNKNOWN);
        texts("Promise 12: UNKNOWN, the greatest number that is named counts", "p2k0", UNKNOWN, "k0p2", UNKNOWN, "k1p0", 0);
        texts("Promise 12: numbers of ticks and of repeats name no range", "t5", 5, "5(t5)", 25, "t992(t9)", 117);
        E.test("Promise 12: UNKNOWN when the range is gone", x -> {
            x.addRange(0, 1, 1, 0);
            E.due("there", Checks.perform(x, "k0"), 0);
            x.removeRange(0);
            E.due("gone", x.perform(), UNKNOWN);
        });
    }

    private static void fullTicks() {
        texts("Promise 12: 5000 ticks", "5(5(5(8(t5))))", 5000, "5(5(4(t50)))", 5000, "5(5(2(t99)))t50", 5000);
        texts("Promise 12: FULL if more than 5000 ticks would pass", "5(5(5(8(t5))))t1", FULL, "t15(5(5(8(t5))))", -103,
            "t105(5(5(8(t5))))", FULL, "5(5(2(t99)))t51", FULL, "2(5(5(2(t50))t1))", FULL);
        refused("Promise 12: FULL changes nothing, ticks", "5(5(5(8(t5))))t1", FULL);
    }

    private static void fullItems() {
        String many = "5(5(5(8(k0k0k0k0k0))))";
        texts("Promise 12: 5000 items", many, 0, "5(5(5(8(p0p0p0p0p0))))", 0, "5(5(5(8(t1t1t1t1t1))))", 5000,
            "5(5(5(8(t1k0p0k0t1))))", 2000);
        texts("Promise 12: FULL if more than 5000 items would be carried out", many + "k0", FULL, "k0" + many, FULL,
            "p0" + many, FULL, many + "p0", FULL, "t10" + many, FULL, many + "t1", FULL, "5(5(5(8(t1t1t1t1t1))))k0", FULL);
        texts("Promise 12: repeats are no items for this", "5(5(5(5(2(2(2(k0)))))))", 0, "5(5(5(5(8(k0)))))", 0);
        texts("Promise 12: what they repeat is counted each time", "9(9(9(6(k0))))", 0, "9(9(9(7(k0))))", FULL);
        E.test("Promise 12: FULL changes nothing, items", x ->
            E.leavesAll(many + "k0", y -> {
                Edges.RICH.on(y);
                Checks.write(y, many + "k0");
            }, PaletteTurns::perform, FULL));
        E.test("Promise 12: 5000 items are all carried out", x -> {
            x.addRange(0, 2, 1, 0);
            Checks.perform(x, many);
            E.due("steps", x.range(0, 6), 5000);
            x.run(0, false);
            Checks.perform(x, "5(5(5(8(t1t1t1t1t1))))");
            E.due("ticks so far", x.total(3), 5000);
        });
    }

    /** So many that they begin again where numbers of the machine do. */
    private static void fullFarBeyond() {
        String sentence = "Promise 12: FULL if more than 5000, however many, ";
        String[] items = {"t1", "t64", "t99", "k0", "p0"};
        for (int depth = 5; depth <= 19; depth++) {
            for (String item : items) {
                texts(sentence + "8 to the power of " + depth, "8(".repeat(depth) + item + ")".repeat(depth), FULL);
            }
        }
        texts(sentence + "at two places", "8(".repeat(18) + "t64t64" + ")".repeat(18), FULL,
            "8(8(8(8(8(8(8(8(8(8(4(t1)))))))))))8(8(8(t1)))", FULL);
    }

    private static void order() {
        texts("Promise 12: a fault ahead of UNKNOWN", "k5x", -102, "p5", UNKNOWN, "2(k5", -104);
        texts("Promise 12: a fault ahead of FULL", "9(9(9(9(t1))))x", -114, "9(9(9(9(t1)))", -113);
        texts("Promise 12: UNKNOWN ahead of FULL", "9(9(9(9(t1))))k5", UNKNOWN, "9(9(9(9(p5))))", UNKNOWN, "k29(9(9(9(k0))))",
            UNKNOWN);
    }

    private static void oneChange() {
        E.test("Promise 12: this is one change, when new", x ->
            E.recorded("t1t1t1t1t1", y -> Checks.write(y, "t1t1t1t1t1"), PaletteTurns::perform, 5));
        E.test("Promise 12: this is one change, when rich", x ->
            E.recorded("t3k0p1", Edges.RICH, PaletteTurns::perform, 3));
        E.test("Promise 12: a change also if no ticks pass by it", x ->
            E.recorded("k0", y -> {
                y.addRange(0, 1, 1, 0);
                Checks.write(y, "k0");
            }, PaletteTurns::perform, 0));
        E.test("Promise 12: a change also if all is then as it was", x ->
            E.recorded("p0p0", y -> {
                y.addRange(0, 1, 1, 0);
                Checks.write(y, "p0p0");
            }, PaletteTurns::perform, 0));
        E.test("Promise 12: the text stays", x -> {
            Checks.write(x, "t7");
            E.due("perform()", x.perform(), 7);
            E.due("total(9)", x.total(9), 2);
            E.due("perform() again", x.perform(), 7);
            E.due("ticks so far", x.total(3), 14);
        });
    }
}
