/** The sentences of 'Terms' on colours, ranges, glows, ticks and the picture that name a boundary case. */
final class TermsEdgesTest {
    private static final Edges E = new Edges("TermsEdgesTest");
    private static final int UNKNOWN = PaletteTurns.UNKNOWN;
    private static final int NOT_POSSIBLE = PaletteTurns.NOT_POSSIBLE;
    private static final int FULL = PaletteTurns.FULL;

    public static void main(String[] args) {
        colourParts();
        places();
        distance();
        rangeNumbers();
        rangePlaces();
        rangeBegins();
        turnUp();
        turnDown();
        turnToAndFro();
        turned();
        glowNumbers();
        glowPlaces();
        glowTicks();
        strength();
        glowShown();
        ticksOfRanges();
        picture();
        lastCall();
        E.end();
    }

    // ---- colours

    private static void colourParts() {
        E.test("Terms, colours: three parts, each from 0 to 63", x -> {
            for (int shift = 0; shift <= 12; shift += 6) {
                x.blend(0, 2, 63 << shift, 0);
                E.due("half of the way from 63 to 0, part at bit " + shift, x.colour(1), 32 << shift);
                x.blend(0, 2, 0, 63 << shift);
                E.due("half of the way from 0 to 63, part at bit " + shift, x.colour(1), 31 << shift);
            }
        });
        E.test("Terms, colours: told as 4096 * red + 64 * green + blue, the last red", x -> {
            x.blend(0, 2, 63 * 4096, 63 * 4096 + 4095);
            E.due("half of the way", x.colour(1), 63 * 4096 + 31 * 64 + 31);
        });
        E.test("Terms, colours: behind 63 the next part begins", x -> {
            x.fill(0, 0, 1);
            x.paint(0, 0, 0);
            x.setColour(0, 63);
            x.setColour(1, 64);
            E.due("contrast of 63 and 64", x.contrast(), 63 * 63 + 1);
        });
        E.test("Terms, colours: behind 4095 the next part begins", x -> {
            x.fill(0, 0, 1);
            x.paint(0, 0, 0);
            x.setColour(0, 4095);
            x.setColour(1, 4096);
            E.due("contrast of 4095 and 4096", x.contrast(), 2 * 63 * 63 + 1);
        });
    }

    private static void places() {
        E.test("Terms, colours: the palette has 32 places, numbered from 0", x -> {
            for (int place = 0; place < 32; place++) {
                x.setColour(place, 1000 + place);
            }
            for (int place = 0; place < 32; place++) {
                E.due("colour(" + place + ")", x.colour(place), 1000 + place);
            }
            E.due("colour(-1)", x.colour(-1), UNKNOWN);
            E.due("colour(32)", x.colour(32), UNKNOWN);
        });
        E.test("Terms, colours: each has a set colour (0 at first)", x -> {
            for (int place = 0; place < 32; place++) {
                E.due("colour(" + place + ")", x.colour(place), 0);
            }
        });
    }

    private static void distance() {
        E.test("Terms, colours: the distance of a colour from itself is 0", x -> {
            x.blend(0, 31, 262143, 262143);
            x.paint(4, 4, 1);
            E.due("contrast()", x.contrast(), 0);
        });
        E.test("Terms, colours: the distance of the first colour and the last one", x -> {
            x.setColour(1, 262143);
            x.paint(4, 4, 1);
            E.due("contrast()", x.contrast(), 63 * 63 + 63 * 63 + 63 * 63);
        });
        E.test("Terms, colours: the distance is a sum of squares, not of differences", x -> {
            x.blend(0, 31, 262143, 262143);
            x.setColour(8, Checks.rgb(3, 3, 3));
            x.setColour(9, Checks.rgb(0, 0, 6));
            E.due("27 is nearer than 36", x.nearest(0), 8);
        });
    }

    // ---- ranges

    private static void addSix(PaletteTurns x) {
        for (int range = 0; range < 6; range++) {
            x.addRange(5 * range, 5 * range + 1, range + 1, 0);
        }
    }

    private static void rangeNumbers() {
        E.test("Terms, ranges: at most 6", x -> {
            addSix(x);
            E.due("the sixth is there", x.range(5, 0), 25);
            E.due("a seventh", x.addRange(30, 31, 1, 0), FULL);
            E.due("ranges", x.total(0), 6);
        });
        E.test("Terms, ranges: numbered from 0 in the order in which they are added", x -> {
            E.due("added first", x.addRange(20, 21, 1, 0), 0);
            E.due("added behind it", x.addRange(10, 11, 1, 0), 1);
            E.due("added last", x.addRange(0, 1, 1, 0), 2);
            E.due("0", x.range(0, 0), 20);
            E.due("1", x.range(1, 0), 10);
            E.due("2", x.range(2, 0), 0);
        });
        int[][] left = {{5, 10, 15, 20, 25}, {0, 5, 15, 20, 25}, {0, 5, 10, 15, 20}};
        int[] removed = {0, 2, 5};
        for (int i = 0; i < removed.length; i++) {
            int number = removed[i];
            int[] firsts = left[i];
            E.test("Terms, ranges: when " + number + " of 6 is removed, the numbers behind it become less by 1", x -> {
                addSix(x);
                x.removeRange(number);
                for (int range = 0; range < 5; range++) {
                    E.due("first place of " + range, x.range(range, 0), firsts[range]);
                    E.due("speed of " + range, x.range(range, 2), firsts[range] / 5 + 1);
                }
                E.due("5 is gone", x.range(5, 0), UNKNOWN);
                E.due("the next one is the last one", x.addRange(30, 31, 1, 0), 5);
            });
        }
    }

    private static void rangePlaces() {
        E.test("Terms, ranges: a last place greater than the first one, two places at least", x -> {
            E.due("one place", x.addRange(7, 7, 1, 0), PaletteTurns.OUT_OF_RANGE);
            E.due("two places", x.addRange(7, 8, 1, 0), 0);
            E.due("places", x.total(5), 2);
        });
        E.test("Terms, ranges: the whole palette is the greatest one", x -> {
            E.due("addRange", x.addRange(0, 31, 1, 0), 0);
            E.due("places", x.total(5), 32);
        });
        E.test("Terms, ranges: no two have a place in common, the last of one and the first of the other", x -> {
            x.addRange(10, 14, 1, 0);
            E.due("14 in common", x.addRange(14, 15, 1, 0), NOT_POSSIBLE);
            E.due("side by side", x.addRange(15, 16, 1, 0), 1);
        });
        E.test("Terms, ranges: no two have a place in common, the first of one and the last of the other", x -> {
            x.addRange(10, 14, 1, 0);
            E.due("10 in common", x.addRange(9, 10, 1, 0), NOT_POSSIBLE);
            E.due("side by side", x.addRange(8, 9, 1, 0), 1);
        });
    }

    private static void rangeBegins() {
        E.test("Terms, ranges: it runs (at first)", x -> {
            x.addRange(3, 4, 2, 2);
            E.due("range(0, 4)", x.range(0, 4), 1);
        });
        E.test("Terms, ranges: it has ticks (0 at first)", x -> {
            x.pass(7);
            x.addRange(3, 4, 30, 2);
            E.due("range(0, 5)", x.range(0, 5), 0);
        });
        E.test("Terms, ranges: and steps (0 at first)", x -> {
            x.pass(7);
            x.addRange(3, 4, 1, 2);
            E.due("range(0, 6)", x.range(0, 6), 0);
            E.due("range(0, 7)", x.range(0, 7), 0);
        });
        E.test("Terms, ranges: all of it 0 at first, also where another range was", x -> {
            x.addRange(0, 4, 3, 2);
            x.run(0, false);
            x.run(0, true);
            x.pass(7);
            x.run(0, false);
            x.removeRange(0);
            x.addRange(0, 4, 3, 2);
            E.due("runs", x.range(0, 4), 1);
            E.due("ticks", x.range(0, 5), 0);
            E.due("steps", x.range(0, 6), 0);
            E.due("turn", x.range(0, 7), 0);
        });
    }

    /** A range of n places with the speed 1, and the turns that are due behind so many steps. */
    private static void turns(PaletteTurns x, int n, int way, int[] steps, int[] due) {
        x.addRange(0, n - 1, 1, way);
        int passed = 0;
        for (int i = 0; i < steps.length; i++) {
            if (steps[i] > passed) {
                x.pass(steps[i] - passed);
                passed = steps[i];
            }
            E.due("turn of " + n + " places behind " + steps[i] + " steps", x.range(0, 7), due[i]);
            E.due("steps are not turned back", x.range(0, 6), steps[i]);
        }
    }

    private static void turnUp() {
        E.test("Terms, ranges: with the way 0 the steps modulo n, two places", x ->
            turns(x, 2, 0, new int[] {0, 1, 2, 3}, new int[] {0, 1, 0, 1}));
        E.test("Terms, ranges: with the way 0 the steps modulo n, at n - 1, n and n + 1", x ->
            turns(x, 5, 0, new int[] {0, 1, 4, 5, 6, 9, 10}, new int[] {0, 1, 4, 0, 1, 4, 0}));
        E.test("Terms, ranges: with the way 0 the steps modulo n, the whole palette", x ->
            turns(x, 32, 0, new int[] {0, 1, 31, 32, 33, 63, 64}, new int[] {0, 1, 31, 0, 1, 31, 0}));
    }

    private static void turnDown() {
        E.test("Terms, ranges: with the way 1, n less the steps modulo n, and this modulo n, two places", x ->
            turns(x, 2, 1, new int[] {0, 1, 2, 3}, new int[] {0, 1, 0, 1}));
        E.test("Terms, ranges: with the way 1, 0 and not n behind 0 and n steps", x ->
            turns(x, 5, 1, new int[] {0, 1, 4, 5, 6, 9, 10}, new int[] {0, 4, 1, 0, 4, 1, 0}));
        E.test("Terms, ranges: with the way 1, the whole palette", x ->
            turns(x, 32, 1, new int[] {0, 1, 31, 32, 33, 63, 64}, new int[] {0, 31, 1, 0, 31, 1, 0}));
    }

    private static void turnToAndFro() {
        E.test("Terms, ranges: with the way 2, two places", x ->
            turns(x, 2, 2, new int[] {0, 1, 2, 3, 4}, new int[] {0, 1, 0, 1, 0}));
        E.test("Terms, ranges: with the way 2, p is the turn while it is less than n", x ->
            turns(x, 5, 2, new int[] {0, 1, 3, 4}, new int[] {0, 1, 3, 4}));
        E.test("Terms, ranges: with the way 2, otherwise 2 * n - 2 - p, from p = n on", x ->
            turns(x, 5, 2, new int[] {5, 6, 7}, new int[] {3, 2, 1}));
        E.test("Terms, ranges: with the way 2, the steps modulo 2 * n - 2", x ->
            turns(x, 5, 2, new int[] {8, 9, 12, 13, 16}, new int[] {0, 1, 4, 3, 0}));
        E.test("Terms, ranges: with the way 2, the whole palette", x ->
            turns(x, 32, 2, new int[] {31, 32, 61, 62, 63, 93, 94}, new int[] {31, 30, 1, 0, 1, 31, 30}));
    }

    private static void shownFrom(PaletteTurns x, String when, int first, int... due) {
        for (int i = 0; i < due.length; i++) {
            E.due("shown(" + (first + i) + ") " + when, x.shown(first + i), due[i]);
        }
    }

    private static void turned() {
        E.test("Terms, ranges: (k - turn) modulo n means 0 to n - 1", x -> {
            for (int place = 9; place <= 13; place++) {
                x.setColour(place, place);
            }
            x.addRange(10, 12, 1, 0);
            shownFrom(x, "with the turn 0", 9, 9, 10, 11, 12, 13);
            x.pass(1);
            shownFrom(x, "with the turn 1", 9, 9, 12, 10, 11, 13);
            x.pass(1);
            shownFrom(x, "with the turn 2", 9, 9, 11, 12, 10, 13);
            x.pass(1);
            shownFrom(x, "with the turn 0 again", 9, 9, 10, 11, 12, 13);
        });
        E.test("Terms, ranges: a range at the first places", x -> {
            x.blend(0, 2, 1, 3);
            x.addRange(0, 1, 1, 0);
            x.pass(1);
            shownFrom(x, "with the turn 1", 0, 2, 1, 3);
        });
        E.test("Terms, ranges: a range at the last places", x -> {
            x.blend(29, 31, 1, 3);
            x.addRange(30, 31, 1, 0);
            x.pass(1);
            shownFrom(x, "with the turn 1", 29, 1, 3, 2);
        });
    }

    // ---- glows

    private static void addFour(PaletteTurns x) {
        for (int glow = 0; glow < 4; glow++) {
            x.addGlow(31 - glow, 100 + glow, glow + 1);
        }
    }

    private static void glowNumbers() {
        E.test("Terms, glows: at most 4", x -> {
            addFour(x);
            E.due("the fourth is there", x.glow(3, 0), 28);
            E.due("a fifth", x.addGlow(0, 1, 1), FULL);
            E.due("glows", x.total(2), 4);
        });
        E.test("Terms, glows: numbered like ranges, from 0", x -> {
            E.due("added first", x.addGlow(9, 0, 1), 0);
            E.due("added behind it", x.addGlow(3, 0, 1), 1);
            E.due("0", x.glow(0, 0), 9);
            E.due("1", x.glow(1, 0), 3);
        });
        int[][] left = {{30, 29, 28}, {31, 29, 28}, {31, 30, 29}};
        int[] removed = {0, 1, 3};
        for (int i = 0; i < removed.length; i++) {
            int number = removed[i];
            int[] places = left[i];
            E.test("Terms, glows: when " + number + " of 4 is removed, the numbers behind it become less by 1", x -> {
                addFour(x);
                x.removeGlow(number);
                for (int glow = 0; glow < 3; glow++) {
                    E.due("place of " + glow, x.glow(glow, 0), places[glow]);
                    E.due("colour of " + glow, x.glow(glow, 1), 131 - places[glow]);
                }
                E.due("3 is gone", x.glow(3, 0), UNKNOWN);
                E.due("the next one is the last one", x.addGlow(0, 1, 1), 3);
            });
        }
    }

    private static void glowPlaces() {
        E.test("Terms, glows: no two have the same place", x -> {
            x.addGlow(9, 5, 2);
            E.due("the same place", x.addGlow(9, 6, 3), NOT_POSSIBLE);
            E.due("the place ahead of it", x.addGlow(8, 6, 3), 1);
            E.due("the place behind it", x.addGlow(10, 6, 3), 2);
        });
        E.test("Terms, glows: the place can be within a range, at its first and at its last place", x -> {
            x.addRange(3, 6, 1, 0);
            E.due("first", x.addGlow(3, 6, 3), 0);
            E.due("last", x.addGlow(6, 6, 3), 1);
        });
        E.test("Terms, glows: a range can be laid over a glow", x -> {
            x.addGlow(3, 6, 3);
            E.due("addRange", x.addRange(3, 6, 1, 0), 0);
        });
    }

    private static void glowTicks() {
        E.test("Terms, glows: ticks (0 at first)", x -> {
            x.pass(5);
            x.addGlow(3, 6, 30);
            E.due("glow(0, 3)", x.glow(0, 3), 0);
            x.pass(5);
            x.removeGlow(0);
            x.addGlow(3, 6, 30);
            E.due("glow(0, 3) where another glow was", x.glow(0, 3), 0);
        });
        E.test("Terms, ticks: the ticks of a glow are 0 when they are twice the length", x -> {
            x.addGlow(3, 6, 30);
            x.pass(59);
            E.due("the most ticks", x.glow(0, 3), 59);
            x.pass(1);
            E.due("0 behind them", x.glow(0, 3), 0);
            x.pass(1);
            E.due("1 behind 0", x.glow(0, 3), 1);
        });
        E.test("Terms, ticks: the ticks of a glow with the length 1", x -> {
            x.addGlow(3, 6, 1);
            for (int tick = 0; tick < 4; tick++) {
                E.due("behind " + tick + " ticks", x.glow(0, 3), tick % 2);
                x.pass(1);
            }
        });
    }

    private static void strength() {
        E.test("Terms, glows: the strength is the ticks, if these are at most the length", x -> {
            x.addGlow(3, 6, 30);
            E.due("at 0 ticks", x.glow(0, 4), 0);
            x.pass(29);
            E.due("one less than the length", x.glow(0, 4), 29);
            x.pass(1);
            E.due("as many as the length", x.glow(0, 4), 30);
        });
        E.test("Terms, glows: otherwise twice the length less the ticks", x -> {
            x.addGlow(3, 6, 30);
            x.pass(31);
            E.due("one more than the length", x.glow(0, 4), 29);
            x.pass(28);
            E.due("the most ticks", x.glow(0, 4), 1);
            x.pass(1);
            E.due("0 ticks", x.glow(0, 4), 0);
        });
    }

    /** What is shown at a place from tick to tick. */
    private static void shownAtTicks(PaletteTurns x, int place, int... due) {
        for (int tick = 0; tick < due.length; tick++) {
            E.due("shown(" + place + ") behind " + tick + " ticks", x.shown(place), due[tick]);
            x.pass(1);
        }
    }

    private static void glowShown() {
        E.test("Terms, glows: the quotient rounded towards 0, to a greater part", x -> {
            x.addGlow(3, 10, 3);
            shownAtTicks(x, 3, 0, 3, 6, 10, 6, 3, 0, 3);
        });
        E.test("Terms, glows: the quotient rounded towards 0, to a lesser part", x -> {
            x.setColour(3, 10);
            x.addGlow(3, 0, 3);
            shownAtTicks(x, 3, 10, 7, 4, 0, 4, 7, 10, 7);
        });
        E.test("Terms, glows: each part by itself", x -> {
            x.setColour(3, Checks.rgb(10, 0, 63));
            x.addGlow(3, Checks.rgb(0, 10, 63), 3);
            shownAtTicks(x, 3, Checks.rgb(10, 0, 63), Checks.rgb(7, 3, 63), Checks.rgb(4, 6, 63), Checks.rgb(0, 10, 63));
        });
        E.test("Terms, glows: the greatest ways of all parts", x -> {
            x.setColour(3, Checks.rgb(63, 0, 63));
            x.addGlow(3, Checks.rgb(0, 63, 0), 30);
            x.pass(29);
            E.due("29 of 30", x.shown(3), Checks.rgb(3, 60, 3));
            x.pass(1);
            E.due("30 of 30", x.shown(3), Checks.rgb(0, 63, 0));
        });
        E.test("Terms, glows: from the colour that is turned to its place", x -> {
            x.setColour(4, 40);
            x.addRange(3, 4, 1, 0);
            x.addGlow(3, 0, 2);
            shownAtTicks(x, 3, 0, 20, 0, 20, 0);
        });
        E.test("Terms, glows: or the set colour, if the place is in no range", x -> {
            x.setColour(2, 40);
            x.addRange(3, 4, 1, 0);
            x.addGlow(2, 0, 2);
            x.addGlow(5, 40, 2);
            x.pass(1);
            E.due("ahead of a range", x.shown(2), 20);
            E.due("behind a range", x.shown(5), 20);
        });
        E.test("Terms, glows: at all other places the colour that is turned there, or the set colour", x -> {
            x.blend(2, 5, 2, 5);
            x.addRange(4, 5, 2, 0);
            x.addGlow(3, 63, 2);
            x.pass(2);
            E.due("ahead of the glow", x.shown(2), 2);
            E.due("the glow", x.shown(3), 63);
            E.due("behind the glow", x.shown(4), 5);
        });
    }

    // ---- ticks

    private static void ticksOfRanges() {
        E.test("Terms, ticks: ticks are always less than the speed, the least speed", x -> {
            x.addRange(0, 1, 1, 0);
            for (int tick = 1; tick <= 3; tick++) {
                x.pass(1);
                E.due("ticks", x.range(0, 5), 0);
                E.due("steps", x.range(0, 6), tick);
            }
        });
        E.test("Terms, ticks: if they are as many as the speed, they are 0, and the steps become more by 1", x -> {
            x.addRange(0, 1, 30, 0);
            x.pass(29);
            E.due("the most ticks", x.range(0, 5), 29);
            E.due("no step yet", x.range(0, 6), 0);
            x.pass(1);
            E.due("0 behind them", x.range(0, 5), 0);
            E.due("a step", x.range(0, 6), 1);
            x.pass(1);
            E.due("1 behind 0", x.range(0, 5), 1);
            E.due("one step", x.range(0, 6), 1);
        });
        E.test("Terms, ticks: the ticks of each range that runs, not of one that pauses", x -> {
            x.addRange(0, 1, 3, 0);
            x.addRange(2, 3, 3, 0);
            x.pass(2);
            x.run(0, false);
            x.pass(1);
            E.due("ticks of the one that pauses", x.range(0, 5), 2);
            E.due("its steps", x.range(0, 6), 0);
            E.due("ticks of the one that runs", x.range(1, 5), 0);
            E.due("its steps", x.range(1, 6), 1);
            x.run(0, true);
            x.pass(1);
            E.due("it goes on where it paused", x.range(0, 6), 1);
        });
        E.test("Terms, ticks: the ticks of each glow, also where a range pauses", x -> {
            x.addRange(0, 1, 3, 0);
            x.run(0, false);
            x.addGlow(0, 1, 9);
            x.addGlow(9, 1, 9);
            x.pass(2);
            E.due("within the range", x.glow(0, 3), 2);
            E.due("elsewhere", x.glow(1, 3), 2);
        });
    }

    // ---- picture

    private static void picture() {
        E.test("Terms, picture: 8 rows of 8 pixels, numbered from 0", x -> {
            for (int pixel = 0; pixel < 64; pixel++) {
                E.due("a pixel of its own", x.paint(pixel / 8, pixel % 8, 1 + pixel % 31), 0);
            }
            for (int pixel = 0; pixel < 64; pixel++) {
                E.due("pixel " + pixel, x.pixel(pixel / 8, pixel % 8, false), 1 + pixel % 31);
            }
            E.due("row -1", x.pixel(-1, 0, false), UNKNOWN);
            E.due("row 8", x.pixel(8, 0, false), UNKNOWN);
            E.due("column -1", x.pixel(0, -1, false), UNKNOWN);
            E.due("column 8", x.pixel(0, 8, false), UNKNOWN);
        });
        E.test("Terms, picture: each pixel has a place of the palette (0 at first)", x -> {
            for (int pixel = 0; pixel < 64; pixel++) {
                E.due("pixel " + pixel, x.pixel(pixel / 8, pixel % 8, false), 0);
            }
        });
        E.test("Terms, picture: and shows the colour that is shown at this place, the first and the last", x -> {
            x.setColour(0, 5);
            x.setColour(31, 6);
            x.paint(7, 7, 31);
            E.due("place 0", x.pixel(0, 0, true), 5);
            E.due("place 31", x.pixel(7, 7, true), 6);
            x.addGlow(31, 63, 1);
            x.pass(1);
            E.due("the colour that is shown, not the set one", x.pixel(7, 7, true), 63);
        });
    }

    // ---- the life of an object

    /** 512 calls, the last of them asks; those before let pass as much as there can be. */
    private static void longest(String what, Edges.Asked asked, long due) {
        E.test("What it is: 512 calls after it has been made, " + what, x -> {
            int calls = 0;
            for (int range = 0; range < 6; range++) {
                x.addRange(2 * range, 2 * range + 1, 1, range % 3);
                calls++;
            }
            for (char sign : "5(5(5(8(t5))))".toCharArray()) {
                x.type(sign);
                calls++;
            }
            x.addGlow(0, 63, 30);
            calls++;
            while (calls < 511) {
                x.perform();
                calls++;
            }
            E.due("the last call", asked.of(x), due);
        });
    }

    private static void lastCall() {
        longest("ticks so far", x -> x.total(3), 490 * 5000);
        longest("steps so far", x -> x.total(4), 6 * 490 * 5000);
        longest("steps of a range", x -> x.range(5, 6), 490 * 5000);
        longest("ticks of a glow", x -> x.glow(0, 3), 490 * 5000 % 60);
        longest("states", x -> x.total(8), 4);
        longest("one program more", x -> x.perform(), 5000);
    }
}
