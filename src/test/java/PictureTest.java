/** Promises 15, 16 and 24: paint, fill, pixel. */
final class PictureTest {
    private static final Checks C = new Checks("PictureTest");

    public static void main(String[] args) {
        paint();
        fill();
        fillShapes();
        pixel();
        C.end();
    }

    private static void paint() {
        PaletteTurns x = new PaletteTurns();
        C.due("row -1", x.paint(-1, 0, 1), PaletteTurns.UNKNOWN);
        C.due("row 8", x.paint(8, 0, 99), PaletteTurns.UNKNOWN);
        C.due("column -1", x.paint(0, -1, 1), PaletteTurns.UNKNOWN);
        C.due("column 8", x.paint(0, 8, 1), PaletteTurns.UNKNOWN);
        C.due("place -1", x.paint(0, 0, -1), PaletteTurns.OUT_OF_RANGE);
        C.due("place 32", x.paint(0, 0, 32), PaletteTurns.OUT_OF_RANGE);
        C.due("as it is", x.paint(0, 0, 0), PaletteTurns.NONE);
        C.due("no state", x.total(8), 0);
        C.due("paint", x.paint(7, 3, 31), 0);
        C.due("paint again", x.paint(7, 3, 4), 31);
        C.due("states", x.total(8), 2);
        C.due("row and column", x.pixel(7, 3, false), 4);
        C.due("not column and row", x.pixel(3, 7, false), 0);
    }

    private static void fill() {
        PaletteTurns x = new PaletteTurns();
        C.due("row -1", x.fill(-1, 0, 1), PaletteTurns.UNKNOWN);
        C.due("row 8", x.fill(8, 0, 99), PaletteTurns.UNKNOWN);
        C.due("column -1", x.fill(0, -1, 1), PaletteTurns.UNKNOWN);
        C.due("column 8", x.fill(0, 8, 1), PaletteTurns.UNKNOWN);
        C.due("place -1", x.fill(0, 0, -1), PaletteTurns.OUT_OF_RANGE);
        C.due("place 32", x.fill(0, 0, 32), PaletteTurns.OUT_OF_RANGE);
        C.due("as it is", x.fill(0, 0, 0), PaletteTurns.NONE);
        C.due("no state", x.total(8), 0);
        C.due("all", x.fill(5, 2, 31), 64);
        C.due("states", x.total(8), 1);
        C.due("corner", x.pixel(7, 7, false), 31);
        C.due("undo", x.undo(), 0);
        C.due("corner", x.pixel(7, 7, false), 0);
    }

    private static void fillShapes() {
        PaletteTurns x = new PaletteTurns();
        for (int i = 0; i < 8; i++) {
            x.paint(i, i, 1);
        }
        C.due("a corner is no connection", x.fill(0, 0, 2), 1);
        C.due("above the line", x.fill(0, 7, 3), 28);
        C.due("below the line", x.pixel(7, 0, false), 0);
        C.due("below the line", x.fill(7, 0, 3), 28);
        C.due("a pixel of the line", x.fill(4, 4, 3), 1);
        C.due("now both sides are one", x.fill(7, 0, 5), 57);
        PaletteTurns rows = new PaletteTurns();
        for (int column = 0; column < 8; column++) {
            rows.paint(3, column, 9);
        }
        C.due("rows do not go on at the edge", rows.fill(2, 7, 1), 24);
        C.due("the other side", rows.pixel(4, 0, false), 0);
        PaletteTurns columns = new PaletteTurns();
        for (int row = 0; row < 8; row++) {
            columns.paint(row, 0, 9);
        }
        C.due("the right edge is not connected with the left one", columns.fill(0, 0, 4), 8);
        C.due("the rest", columns.fill(7, 7, 4), 56);
        PaletteTurns upwards = new PaletteTurns();
        upwards.paint(0, 1, 1);
        C.due("up along the left edge", upwards.fill(1, 0, 2), 63);
        C.due("its end", upwards.pixel(0, 0, false), 2);
        PaletteTurns snake = new PaletteTurns();
        for (int row = 1; row < 8; row += 2) {
            for (int column = 0; column < 8; column++) {
                if (column != (row % 4 == 1 ? 7 : 0)) {
                    snake.paint(row, column, 1);
                }
            }
        }
        C.due("a winding way", snake.fill(0, 0, 2), 36);
        C.due("its end", snake.pixel(7, 0, false), 2);
    }

    private static void pixel() {
        PaletteTurns x = new PaletteTurns();
        x.setColour(3, 300);
        x.paint(2, 5, 3);
        C.due("place", x.pixel(2, 5, false), 3);
        C.due("colour", x.pixel(2, 5, true), 300);
        x.addRange(3, 4, 1, 0);
        x.pass(1);
        C.due("place stays", x.pixel(2, 5, false), 3);
        C.due("colour moves", x.pixel(2, 5, true), 0);
        C.due("row -1", x.pixel(-1, 0, false), PaletteTurns.UNKNOWN);
        C.due("row 8", x.pixel(8, 0, true), PaletteTurns.UNKNOWN);
        C.due("column -1", x.pixel(0, -1, true), PaletteTurns.UNKNOWN);
        C.due("column 8", x.pixel(0, 8, false), PaletteTurns.UNKNOWN);
        C.due("extremes", x.pixel(Integer.MAX_VALUE, Integer.MIN_VALUE, true), PaletteTurns.UNKNOWN);
    }
}
