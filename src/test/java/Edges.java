import java.util.ArrayList;
import java.util.List;

/** Tests of the document's sentences that name a boundary case, each on new objects of its own. */
final class Edges {
    interface Calls {
        void on(PaletteTurns x);
    }

    interface Asked {
        long of(PaletteTurns x);
    }

    interface AskedWith {
        long of(PaletteTurns x, int argument);
    }

    private interface Look {
        List<Long> at(PaletteTurns x);
    }

    static final Calls NEW = x -> { };
    static final Calls RICH = Edges::makeRich;
    private static final int MOST_STATES = 4;

    private final Checks checks;
    private String sentence = "";

    Edges(String name) {
        checks = new Checks(name);
    }

    void end() {
        checks.end();
    }

    /** The test of one sentence. */
    void test(String words, Calls calls) {
        sentence = words;
        calls.on(new PaletteTurns());
    }

    void due(String call, long got, long want) {
        checks.due(sentence + ": " + call, got, want);
    }

    /**
     * Two ranges, one of which pauses, two glows, a picture, a text, a snapshot that differs, and a full
     * history of states that differ.
     */
    private static void makeRich(PaletteTurns x) {
        x.blend(4, 9, 262143, 0);
        x.addRange(4, 9, 4, 1);
        x.addRange(12, 14, 3, 2);
        x.addGlow(6, 4032, 5);
        x.keep();
        x.fill(0, 0, 6);
        x.setColour(13, 777);
        x.addGlow(20, 63, 3);
        x.pass(7);
        x.run(1, false);
        x.paint(3, 3, 7);
        x.pass(2);
        Checks.write(x, "t3k0p1");
    }

    static PaletteTurns made(Calls calls) {
        PaletteTurns x = new PaletteTurns();
        calls.on(x);
        return x;
    }

    // ---- what is as it was

    /** The answer, and behind it everything as it was: state, history, snapshot and text. */
    void leavesAll(String call, Calls before, Asked asked, long want) {
        leavesHistory(call, before, asked, want);
        leavesSnapshot(call, before, asked, want);
        leavesText(call, before, asked, want);
    }

    /** The state and all states of the history, down to where undo finds none. */
    void leavesHistory(String call, Calls before, Asked asked, long want) {
        for (int undos = 0; undos <= MOST_STATES + 1; undos++) {
            int back = undos;
            leaves(call + ", and " + undos + " times undo()", before, asked, want, x -> afterUndos(x, back));
        }
    }

    void leavesSnapshot(String call, Calls before, Asked asked, long want) {
        leaves(call + ", and restore()", before, asked, want, Edges::afterRestore);
    }

    void leavesText(String call, Calls before, Asked asked, long want) {
        leaves(call + ", and perform()", before, asked, want, Edges::afterPerform);
    }

    private void leaves(String what, Calls before, Asked asked, long want, Look look) {
        PaletteTurns touched = made(before);
        due(what, asked.of(touched), want);
        same(what, look.at(touched), look.at(made(before)));
    }

    /** The call leaves all as it was, on a new object and on a rich one. */
    void refused(String call, Asked asked, long want) {
        leavesAll(call + " when new", NEW, asked, want);
        leavesAll(call + " when rich", RICH, asked, want);
    }

    /** The first arguments that are not allowed, at both ends, and those that are farthest away. */
    void outside(int least, int most, String call, Calls before, AskedWith asked, long want) {
        for (int wrong : new int[] {least - 1, most + 1, Integer.MIN_VALUE, Integer.MAX_VALUE}) {
            leavesAll(call + " with " + wrong, before, x -> asked.of(x, wrong), want);
        }
    }

    // ---- what is recorded

    /** The call answers so, and the state before it is recorded, as the one state more or in place of the oldest. */
    void recorded(String call, Calls before, Asked change, long want) {
        PaletteTurns x = made(before);
        int states = x.total(8);
        due(call, change.of(x), want);
        int kept = Math.min(MOST_STATES, states + 1);
        due(call + ", states behind it", x.total(8), kept);
        for (int undos = 1; undos <= kept; undos++) {
            PaletteTurns changed = made(before);
            change.of(changed);
            due(call + ", undo " + undos, lastUndo(changed, undos), kept - undos);
            PaletteTurns unchanged = made(before);
            lastUndo(unchanged, undos - 1);
            same(call + ", behind undo " + undos, state(changed), state(unchanged));
        }
    }

    private static int lastUndo(PaletteTurns x, int undos) {
        int answer = x.total(8);
        for (int undo = 0; undo < undos; undo++) {
            answer = x.undo();
        }
        return answer;
    }

    // ---- what is seen

    private void same(String what, List<Long> got, List<Long> want) {
        due(what + ", numbers that are seen", got.size(), want.size());
        int number = 0;
        while (number < Math.min(got.size(), want.size()) && got.get(number).equals(want.get(number))) {
            number++;
        }
        if (number < Math.min(got.size(), want.size())) {
            due(what + ", seen as number " + number, got.get(number), want.get(number));
        }
    }

    private static List<Long> afterUndos(PaletteTurns x, int undos) {
        long answer = lastUndo(x, undos);
        List<Long> seen = state(x);
        seen.add(answer);
        seen.add((long) x.total(8));
        return seen;
    }

    private static List<Long> afterRestore(PaletteTurns x) {
        long answer = x.restore();
        List<Long> seen = state(x);
        seen.add(answer);
        return seen;
    }

    private static List<Long> afterPerform(PaletteTurns x) {
        long length = x.total(9);
        long answer = x.perform();
        List<Long> seen = state(x);
        seen.add(length);
        seen.add(answer);
        return seen;
    }

    /** Everything but the text, the history and the snapshot, in some 220 calls. */
    private static List<Long> state(PaletteTurns x) {
        List<Long> seen = new ArrayList<>();
        for (int what = 0; what < 8; what++) {
            seen.add((long) x.total(what));
        }
        for (int place = 0; place < 32; place++) {
            seen.add((long) x.colour(place));
            seen.add((long) x.shown(place));
        }
        for (int range = 0; range < x.total(0); range++) {
            for (int what = 0; what < 8; what++) {
                seen.add((long) x.range(range, what));
            }
        }
        for (int glow = 0; glow < x.total(2); glow++) {
            for (int what = 0; what < 5; what++) {
                seen.add((long) x.glow(glow, what));
            }
        }
        for (int pixel = 0; pixel < 64; pixel++) {
            seen.add((long) x.pixel(pixel / 8, pixel % 8, false));
        }
        return seen;
    }
}
