import java.util.Random;

/** All promises: long runs of calls by lot, always the same ones, compared with the model. */
final class ModelTest {
    private static final Checks C = new Checks("ModelTest");
    private static final int RUNS = 900;
    /** What later calls of an object answer is free. */
    private static final int MOST_CALLS = 512;
    /** Some characters more than a text can have, so that it is full now and then. */
    private static final int LONGEST_PROGRAM = 64;
    /** A program is typed between clearText and perform. */
    private static final int CALLS_AT_ONCE = LONGEST_PROGRAM + 2;

    private final PaletteTurns x = new PaletteTurns();
    private final Model model = new Model();
    private final Random lot;
    private final String run;
    private final boolean isOdd;
    private int calls = 0;

    private ModelTest(int run) {
        this.run = "run " + run + ": ";
        lot = new Random(run);
        isOdd = run % 4 == 3;
    }

    public static void main(String[] args) {
        for (int run = 0; run < RUNS; run++) {
            ModelTest test = new ModelTest(run);
            while (test.calls + CALLS_AT_ONCE <= MOST_CALLS) {
                test.call();
            }
        }
        C.end();
    }

    /** Mostly a number within bounds, now and then one beside or far from them. */
    private int number(int least, int most) {
        int among = lot.nextInt(isOdd ? 12 : 60);
        if (among == 0) return least - 1;
        if (among == 1) return most + 1;
        if (among == 2) return lot.nextInt();
        if (among == 3) return most;
        return least + lot.nextInt(most - least + 1);
    }

    private int place() {
        return number(0, 31);
    }

    private int ofFew() {
        return lot.nextInt(3) == 0 ? place() : number(0, 9);
    }

    private int colour() {
        return lot.nextInt(3) == 0 ? 63 * lot.nextInt(4) : number(0, 262143);
    }

    private int which(int most) {
        return number(0, most - 1);
    }

    private int way() {
        return number(0, 2);
    }

    private int speed() {
        return lot.nextInt(2) == 0 ? number(1, 4) : number(1, 30);
    }

    private int ticks(int least) {
        return lot.nextInt(2) == 0 ? number(least, 20) : number(least, 1000);
    }

    /** Each answer is that of one call. */
    private void due(String call, long got, long want) {
        calls++;
        C.due(run + call, got, want);
    }

    private void call() {
        switch (lot.nextInt(16)) {
            case 0, 1 -> callOfColours();
            case 2, 3 -> callOfRanges();
            case 4 -> callOfGlows();
            case 5, 6 -> callOfTime();
            case 7 -> writeAndPerform();
            case 8, 9 -> callOfPicture();
            case 10 -> callOfHistory();
            case 11, 12 -> whatThereIs();
            default -> whatWouldBe();
        }
    }

    private void callOfColours() {
        int a = place();
        int b = lot.nextInt(2) == 0 ? place() : Math.min(31, Math.abs(a % 32) + 1 + lot.nextInt(6));
        int c = colour();
        int d = colour();
        switch (lot.nextInt(5)) {
            case 0, 1 -> due("setColour(" + a + ", " + c + ")", x.setColour(a, c), model.setColour(a, c));
            case 2, 3 -> due("blend(" + a + ", " + b + ", " + c + ", " + d + ")", x.blend(a, b, c, d), model.blend(a, b, c, d));
            default -> {
                if (lot.nextInt(3) == 0) due("freeze()", x.freeze(), model.freeze());
            }
        }
    }

    private void callOfRanges() {
        int a = place();
        int b = lot.nextInt(3) == 0 ? place() : Math.abs(a % 32) + 1 + lot.nextInt(6);
        int r = which(Math.max(1, model.total(0)));
        int s = speed();
        int w = way();
        boolean runs = lot.nextInt(3) > 0;
        switch (lot.nextInt(8)) {
            case 0, 1, 2, 3 -> due("addRange(" + a + ", " + b + ", " + s + ", " + w + ")",
                x.addRange(a, b, s, w), model.addRange(a, b, s, w));
            case 4 -> due("removeRange(" + r + ")", x.removeRange(r), model.removeRange(r));
            case 5 -> due("setSpeed(" + r + ", " + s + ", " + w + ")", x.setSpeed(r, s, w), model.setSpeed(r, s, w));
            default -> due("run(" + r + ", " + runs + ")", x.run(r, runs), model.run(r, runs));
        }
    }

    private void callOfGlows() {
        int a = ofFew();
        int c = colour();
        int s = speed();
        int g = which(Math.max(1, model.total(2)));
        if (lot.nextInt(4) > 0) {
            due("addGlow(" + a + ", " + c + ", " + s + ")", x.addGlow(a, c, s), model.addGlow(a, c, s));
        } else {
            due("removeGlow(" + g + ")", x.removeGlow(g), model.removeGlow(g));
        }
    }

    private void callOfTime() {
        int t = ticks(1);
        switch (lot.nextInt(6)) {
            case 0 -> due("perform()", x.perform(), model.perform());
            case 1 -> {
                char sign = "tpk0123456789()".charAt(lot.nextInt(15));
                due("type(" + sign + ")", x.type(sign), model.type(sign));
            }
            default -> due("pass(" + t + ")", x.pass(t), model.pass(t));
        }
    }

    private void writeAndPerform() {
        due("clearText()", x.clearText(), model.clearText());
        StringBuilder text = new StringBuilder();
        writeProgram(text, 0);
        if (lot.nextInt(4) == 0) {
            text.setCharAt(lot.nextInt(text.length()), "tpk0123456789()x".charAt(lot.nextInt(16)));
        }
        text.setLength(Math.min(text.length(), LONGEST_PROGRAM));
        for (int i = 0; i < text.length(); i++) {
            due("type", x.type(text.charAt(i)), model.type(text.charAt(i)));
        }
        due("perform() of " + text, x.perform(), model.perform());
    }

    private void writeProgram(StringBuilder text, int depth) {
        int items = 1 + lot.nextInt(3);
        for (int i = 0; i < items; i++) {
            int kind = lot.nextInt(7);
            if (kind < 2 && depth < 4) {
                text.append(2 + lot.nextInt(8)).append('(');
                writeProgram(text, depth + 1);
                text.append(')');
            } else if (kind < 4) {
                text.append('t').append(1 + lot.nextInt(lot.nextInt(4) == 0 ? 99 : 9));
            } else {
                text.append(kind < 6 ? 'k' : 'p').append(lot.nextInt(Math.min(6, 1 + model.total(0))));
            }
        }
    }

    private void callOfPicture() {
        int a = which(8);
        int b = which(8);
        int p = ofFew();
        if (lot.nextInt(4) == 0) {
            due("fill(" + a + ", " + b + ", " + p + ")", x.fill(a, b, p), model.fill(a, b, p));
        } else {
            due("paint(" + a + ", " + b + ", " + p + ")", x.paint(a, b, p), model.paint(a, b, p));
        }
    }

    private void callOfHistory() {
        switch (lot.nextInt(6)) {
            case 0 -> due("keep()", x.keep(), model.keep());
            case 1 -> due("restore()", x.restore(), model.restore());
            default -> due("undo()", x.undo(), model.undo());
        }
    }

    private void whatThereIs() {
        int p = place();
        int r = which(6);
        int g = which(4);
        int what = number(0, 9);
        int a = which(8);
        int b = which(8);
        due("colour(" + p + ")", x.colour(p), model.colour(p));
        due("shown(" + p + ")", x.shown(p), model.shown(p));
        due("range(" + r + ", " + what + ")", x.range(r, what), model.range(r, what));
        due("glow(" + g + ", " + what + ")", x.glow(g, what), model.glow(g, what));
        due("pixel(" + a + ", " + b + ", true)", x.pixel(a, b, true), model.pixel(a, b, true));
        due("pixel(" + a + ", " + b + ", false)", x.pixel(a, b, false), model.pixel(a, b, false));
        due("total(" + what + ")", x.total(what), model.total(what));
    }

    private void whatWouldBe() {
        int p = place();
        int t = ticks(0);
        int c = colour();
        switch (lot.nextInt(12)) {
            case 0, 1, 2 -> due("shownIn(" + p + ", " + t + ")", x.shownIn(p, t), model.shownIn(p, t));
            case 3, 4 -> due("fullTurn()", x.fullTurn(), model.fullTurn());
            case 5, 6 -> due("nearest(" + c + ")", x.nearest(c), model.nearest(c));
            case 7, 8 -> due("changes(" + t + ")", x.changes(t), model.changes(t));
            case 9 -> due("pictureBack()", x.pictureBack(), model.pictureBack());
            default -> due("contrast()", x.contrast(), model.contrast());
        }
    }
}
