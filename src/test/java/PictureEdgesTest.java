/** Boundary cases of promises 15, 16 and 24: paint, fill, pixel. */
final class PictureEdgesTest {
    private static final Edges E = new Edges("PictureEdgesTest");
    private static final int UNKNOWN = PaletteTurns.UNKNOWN;
    private static final int OUT_OF_RANGE = PaletteTurns.OUT_OF_RANGE;
    private static final int NONE = PaletteTurns.NONE;

    public static void main(String[] args) {
        paint();
        paintAnswers();
        fill();
        fillAnswers();
        fillConnected();
        fillNotConnected();
        pixel();
        E.end();
    }

    private static void paint() {
        E.test("Promise 15: row 0 to 7", x -> {
            E.due("row 0", x.paint(0, 3, 5), 0);
            E.due("row 7", x.paint(7, 3, 6), 0);
            E.due("pixel(0, 3)", x.pixel(0, 3, false), 5);
            E.due("pixel(7, 3)", x.pixel(7, 3, false), 6);
            E.outside(0, 7, "row", Edges.NEW, (y, row) -> y.paint(row, 3, 5), UNKNOWN);
            E.outside(0, 7, "row", Edges.RICH, (y, row) -> y.paint(row, 3, 5), UNKNOWN);
        });
        E.test("Promise 15: column 0 to 7", x -> {
            E.due("column 0", x.paint(3, 0, 5), 0);
            E.due("column 7", x.paint(3, 7, 6), 0);
            E.due("pixel(3, 0)", x.pixel(3, 0, false), 5);
            E.due("pixel(3, 7)", x.pixel(3, 7, false), 6);
            E.outside(0, 7, "column", Edges.NEW, (y, column) -> y.paint(3, column, 5), UNKNOWN);
            E.outside(0, 7, "column", Edges.RICH, (y, column) -> y.paint(3, column, 5), UNKNOWN);
        });
        E.test("Promise 15: place 0 to 31", x -> {
            E.due("place 31", x.paint(3, 3, 31), 0);
            E.due("place 0", x.paint(3, 3, 0), 31);
            E.due("pixel(3, 3)", x.pixel(3, 3, false), 0);
            E.outside(0, 31, "place", Edges.NEW, (y, place) -> y.paint(3, 3, place), OUT_OF_RANGE);
            E.outside(0, 31, "place", Edges.RICH, (y, place) -> y.paint(3, 3, place), OUT_OF_RANGE);
        });
        E.test("Promise 15: UNKNOWN (the pixel) ahead of OUT_OF_RANGE", x -> {
            E.refused("row and place", y -> y.paint(8, 3, 32), UNKNOWN);
            E.refused("column and place", y -> y.paint(3, -1, -1), UNKNOWN);
        });
    }

    private static void paintAnswers() {
        E.test("Promise 15: the place that it had", x -> {
            E.due("0 at first", x.paint(3, 3, 31), 0);
            E.due("31", x.paint(3, 3, 7), 31);
            E.due("another pixel", x.paint(3, 4, 7), 0);
        });
        E.test("Promise 15: NONE if it has it already", x -> {
            E.leavesAll("when new", Edges.NEW, y -> y.paint(7, 7, 0), NONE);
            E.leavesAll("when rich", Edges.RICH, y -> y.paint(3, 3, 7), NONE);
        });
        E.test("Promise 15: no NONE for another place that shows the same colour", x ->
            E.recorded("paint", Edges.NEW, y -> y.paint(7, 7, 1), 0));
        E.test("Promise 15: this is a change", x ->
            E.recorded("when rich", Edges.RICH, y -> y.paint(3, 3, 6), 7));
    }

    private static void fill() {
        E.test("Promise 16: row 0 to 7", x -> {
            E.due("row 0", x.fill(0, 3, 5), 64);
            E.due("row 7", x.fill(7, 3, 6), 64);
            E.outside(0, 7, "row", Edges.NEW, (y, row) -> y.fill(row, 3, 5), UNKNOWN);
            E.outside(0, 7, "row", Edges.RICH, (y, row) -> y.fill(row, 3, 5), UNKNOWN);
        });
        E.test("Promise 16: column 0 to 7", x -> {
            E.due("column 0", x.fill(3, 0, 5), 64);
            E.due("column 7", x.fill(3, 7, 6), 64);
            E.outside(0, 7, "column", Edges.NEW, (y, column) -> y.fill(3, column, 5), UNKNOWN);
            E.outside(0, 7, "column", Edges.RICH, (y, column) -> y.fill(3, column, 5), UNKNOWN);
        });
        E.test("Promise 16: place 0 to 31", x -> {
            E.due("place 31", x.fill(3, 3, 31), 64);
            E.due("pixel(7, 7)", x.pixel(7, 7, false), 31);
            E.due("place 0", x.fill(3, 3, 0), 64);
            E.due("pixel(7, 7)", x.pixel(7, 7, false), 0);
            E.outside(0, 31, "place", Edges.NEW, (y, place) -> y.fill(3, 3, place), OUT_OF_RANGE);
            E.outside(0, 31, "place", Edges.RICH, (y, place) -> y.fill(3, 3, place), OUT_OF_RANGE);
        });
        E.test("Promise 16: UNKNOWN (the pixel) ahead of OUT_OF_RANGE", x -> {
            E.refused("row and place", y -> y.fill(-1, 3, 32), UNKNOWN);
            E.refused("column and place", y -> y.fill(3, 8, -1), UNKNOWN);
        });
        E.test("Promise 16: NONE if the pixel has this place already", x -> {
            E.leavesAll("when new", Edges.NEW, y -> y.fill(7, 7, 0), NONE);
            E.leavesAll("one pixel", Edges.RICH, y -> y.fill(3, 3, 7), NONE);
            E.leavesAll("the others", Edges.RICH, y -> y.fill(0, 0, 6), NONE);
        });
    }

    private static void fillAnswers() {
        E.test("Promise 16: how many pixels get another place, one", x -> {
            x.paint(3, 3, 9);
            E.due("fill(3, 3, 5)", x.fill(3, 3, 5), 1);
            E.due("the one above stays", x.pixel(2, 3, false), 0);
            E.due("the one below stays", x.pixel(4, 3, false), 0);
        });
        E.test("Promise 16: how many pixels get another place, all", x -> {
            E.due("from the first", x.fill(0, 0, 5), 64);
            E.due("from the last", x.fill(7, 7, 6), 64);
            E.due("from another corner", x.fill(0, 7, 7), 64);
            E.due("from the last corner", x.fill(7, 0, 8), 64);
            for (int pixel = 0; pixel < 64; pixel++) {
                E.due("pixel " + pixel, x.pixel(pixel / 8, pixel % 8, false), 8);
            }
        });
        E.test("Promise 16: all but one", x -> {
            x.paint(0, 0, 9);
            E.due("fill(7, 7, 5)", x.fill(7, 7, 5), 63);
            E.due("pixel(0, 0)", x.pixel(0, 0, false), 9);
        });
        E.test("Promise 16: those that have the other place already don't get it", x -> {
            x.paint(3, 3, 5);
            E.due("fill(0, 0, 5)", x.fill(0, 0, 5), 63);
            E.due("now all of them are connected", x.fill(0, 0, 6), 64);
        });
        E.test("Promise 16: the same place, not the same colour", x -> {
            x.paint(0, 0, 9);
            E.due("fill(0, 0, 5)", x.fill(0, 0, 5), 1);
        });
        E.test("Promise 16: this is a change", x -> {
            E.recorded("when new", Edges.NEW, y -> y.fill(0, 0, 31), 64);
            E.recorded("when rich", Edges.RICH, y -> y.fill(0, 0, 31), 63);
        });
    }

    /** Two pixels alone with a place of their own, and what fill of the first answers. */
    private static void two(String sentence, int row, int column, int otherRow, int otherColumn, int due) {
        E.test(sentence + ", " + row + " " + column + " and " + otherRow + " " + otherColumn, x -> {
            x.paint(row, column, 9);
            x.paint(otherRow, otherColumn, 9);
            E.due("fill", x.fill(row, column, 5), due);
            E.due("the other one", x.pixel(otherRow, otherColumn, false), due == 2 ? 5 : 9);
        });
        E.test(sentence + ", the other way", x -> {
            x.paint(row, column, 9);
            x.paint(otherRow, otherColumn, 9);
            E.due("fill", x.fill(otherRow, otherColumn, 5), due);
        });
    }

    private static void fillConnected() {
        two("Promise 16: connected if they are side by side", 0, 0, 0, 1, 2);
        two("Promise 16: connected if they are side by side", 0, 6, 0, 7, 2);
        two("Promise 16: connected if they are side by side", 7, 0, 7, 1, 2);
        two("Promise 16: connected if they are side by side", 7, 6, 7, 7, 2);
        two("Promise 16: connected if they are above or below one another", 0, 0, 1, 0, 2);
        two("Promise 16: connected if they are above or below one another", 6, 0, 7, 0, 2);
        two("Promise 16: connected if they are above or below one another", 0, 7, 1, 7, 2);
        two("Promise 16: connected if they are above or below one another", 6, 7, 7, 7, 2);
        E.test("Promise 16: connected by a way of many turns", x -> {
            for (int row = 1; row < 8; row += 2) {
                for (int column = 0; column < 8; column++) {
                    x.paint(row, row % 4 == 1 ? column : 7 - column, column < 7 ? 9 : 0);
                }
            }
            E.due("from its beginning", x.fill(0, 0, 5), 36);
            E.due("its end", x.pixel(7, 0, false), 5);
            E.due("a row between", x.fill(3, 1, 5), 7);
        });
        E.test("Promise 16: connected along the four edges", x -> {
            for (int pixel = 0; pixel < 64; pixel++) {
                if (pixel / 8 % 7 != 0 && pixel % 8 % 7 != 0) {
                    x.paint(pixel / 8, pixel % 8, 9);
                }
            }
            E.due("the edges", x.fill(0, 3, 5), 28);
            E.due("what is within", x.fill(3, 3, 6), 36);
        });
    }

    private static void fillNotConnected() {
        two("Promise 16: not connected by a corner", 3, 3, 4, 4, 1);
        two("Promise 16: not connected by a corner", 3, 4, 4, 3, 1);
        two("Promise 16: not connected by a corner", 0, 0, 1, 1, 1);
        two("Promise 16: not connected by a corner", 6, 7, 7, 6, 1);
        two("Promise 16: a row doesn't go on in the next one", 0, 7, 1, 0, 1);
        two("Promise 16: a row doesn't go on in the next one", 6, 7, 7, 0, 1);
        two("Promise 16: a row doesn't begin again", 3, 0, 3, 7, 1);
        two("Promise 16: a column doesn't begin again", 0, 3, 7, 3, 1);
        two("Promise 16: the first and the last pixel", 0, 0, 7, 7, 1);
        two("Promise 16: with one between them", 3, 3, 3, 5, 1);
        two("Promise 16: with one between them", 3, 3, 5, 3, 1);
        E.test("Promise 16: nothing is connected on a chequered picture", x -> {
            for (int pixel = 0; pixel < 64; pixel++) {
                if ((pixel / 8 + pixel % 8) % 2 == 1) {
                    x.paint(pixel / 8, pixel % 8, 9);
                }
            }
            E.due("one of the one place", x.fill(4, 4, 5), 1);
            E.due("one of the other place", x.fill(4, 5, 6), 1);
        });
    }

    private static void pixel() {
        E.test("Promise 24: row 0 to 7", x -> {
            x.paint(7, 3, 6);
            x.paint(0, 3, 5);
            E.due("row 0", x.pixel(0, 3, false), 5);
            E.due("row 7", x.pixel(7, 3, false), 6);
            E.outside(0, 7, "row", Edges.RICH, (y, row) -> y.pixel(row, 3, false), UNKNOWN);
            E.outside(0, 7, "row, shown", Edges.RICH, (y, row) -> y.pixel(row, 3, true), UNKNOWN);
        });
        E.test("Promise 24: column 0 to 7", x -> {
            x.paint(3, 7, 6);
            x.paint(3, 0, 5);
            E.due("column 0", x.pixel(3, 0, false), 5);
            E.due("column 7", x.pixel(3, 7, false), 6);
            E.outside(0, 7, "column", Edges.RICH, (y, column) -> y.pixel(3, column, false), UNKNOWN);
            E.outside(0, 7, "column, shown", Edges.RICH, (y, column) -> y.pixel(3, column, true), UNKNOWN);
        });
        E.test("Promise 24: the colour or the place, and nothing changes", x -> {
            E.leavesAll("the place", Edges.RICH, y -> y.pixel(3, 3, false), 7);
            PaletteTurns rich = Edges.made(Edges.RICH);
            E.leavesAll("the colour", Edges.RICH, y -> y.pixel(3, 3, true), rich.shown(7));
            E.due("another colour than the set one", rich.shown(7) == rich.colour(7) ? 1 : 0, 0);
        });
        E.test("Promise 24: the last place and the last colour", x -> {
            x.setColour(31, 262143);
            x.paint(7, 7, 31);
            E.due("the place", x.pixel(7, 7, false), 31);
            E.due("the colour", x.pixel(7, 7, true), 262143);
        });
    }
}
