import java.lang.management.ManagementFactory;

/** The calls of a run, the dearest ones among them, fit into the room that all calls of a run have together. */
final class RoomTest {
    private static final Checks C = new Checks("RoomTest");
    /** Some of them make several calls: with those ahead of them, 499 of the 512 that an object has. */
    private static final int STEPS = 320;
    /** 7.3 million fields and elements of four bytes. */
    private static final long ROOM = 4L * 7_300_000;

    private static final com.sun.management.ThreadMXBean THREADS =
        (com.sun.management.ThreadMXBean) ManagementFactory.getThreadMXBean();

    public static void main(String[] args) {
        measure();
        C.end();
    }

    private static void measure() {
        PaletteTurns x = new PaletteTurns();
        x.blend(0, 31, 0, 262143);
        x.addRange(0, 10, 7, 2);
        x.addRange(11, 31, 1, 0);
        x.addGlow(3, 5, 29);
        x.fill(0, 0, 12);
        for (char sign : "9(9(9(6(k0))))".toCharArray()) {
            x.type(sign);
        }
        long before = THREADS.getCurrentThreadAllocatedBytes();
        long sum = 0;
        for (int call = 0; call < STEPS; call++) {
            sum += ask(x, call);
        }
        long bytes = THREADS.getCurrentThreadAllocatedBytes() - before;
        C.holds("bytes of " + STEPS + " steps: " + bytes, bytes < ROOM);
        C.holds("calls answer", sum != 0);
    }

    private static long ask(PaletteTurns x, int call) {
        switch (call % 16) {
            case 0: return x.setColour(call % 32, call);
            case 1: return x.blend(3, 9, call, 2 * call);
            case 2: return x.freeze();
            case 3: return x.addGlow(9, call, 4) + x.removeGlow(1);
            case 4: return x.removeRange(1) + x.addRange(11, 31, 2, 1);
            case 5: return x.setSpeed(1, 1 + call % 30, 2);
            case 6: return x.pass(13);
            case 7: return x.perform();
            case 8: return x.fill(call % 8, 3, call % 32);
            case 9: return x.keep();
            case 10: return x.restore() + x.undo();
            case 11: return x.total(6) + x.total(7);
            case 12: return x.fullTurn();
            case 13: return x.pictureBack();
            case 14: return x.nearest(call) + x.changes(17);
            default: return x.contrast() + x.clearText() + x.type('t') + x.paint(1, 1, call % 32);
        }
    }
}
