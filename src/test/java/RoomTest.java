import java.lang.management.ManagementFactory;

/** No call makes an object: 200 of each kind, on a full row, leave the room as it was. */
public final class RoomTest {
    /** Some of them are two calls: with those that make it ready an object has no more than 512. */
    private static final int CALLS = 200;
    /** What the measuring itself may take; one object a call would be four times as much. */
    private static final long SLACK = 800;

    private static long sum;

    public static void main(String[] args) {
        Checks c = new Checks("RoomTest");
        if (!(ManagementFactory.getThreadMXBean() instanceof com.sun.management.ThreadMXBean threads)
                || !threads.isThreadAllocatedMemorySupported()) {
            c.holds("this machine does not count what is made: nothing to check", true);
            c.end();
            return;
        }
        for (int which = 0; which < 24; which++) {
            WordAnchors x = fullOne();
            calls(fullOne(), which);
            long before = threads.getCurrentThreadAllocatedBytes();
            calls(x, which);
            long made = threads.getCurrentThreadAllocatedBytes() - before;
            c.holds("calls of kind " + which + " make no objects; bytes made: " + made, made < SLACK);
        }
        c.holds("the answers were used", sum != 0);
        c.end();
    }

    private static WordAnchors fullOne() {
        WordAnchors x = new WordAnchors();
        for (int k = 0; k < 38; k++) {
            x.put(k, k % 7);
        }
        for (int k = 0; k < 6; k++) {
            x.anchor(6 * k);
        }
        x.set(3, 40);
        String text = "+0,1;-0;=5,5;>0,9,9;+38,0;-38;+0,1;-0;=5,5;>0,9,9;>1,30,1;";
        for (int k = 0; k < text.length(); k++) {
            x.type(text.charAt(k));
        }
        return x;
    }

    private static void calls(WordAnchors x, int which) {
        for (int k = 0; k < CALLS; k++) {
            sum += call(x, which, k);
        }
    }

    private static int call(WordAnchors x, int which, int k) {
        return switch (which) {
            case 0 -> x.put(0, 1) + x.undo();
            case 1 -> x.take(0) + x.undo();
            case 2 -> x.change(k % 38, 1);
            case 3 -> x.move(0, 19, 19);
            case 4 -> x.anchor(0);
            case 5 -> x.drop(0) + x.undo();
            case 6 -> x.find(0);
            case 7 -> x.findAll();
            case 8 -> x.remember(k % 6);
            case 9 -> x.set(0, k % 21);
            case 10 -> x.wordAt(k);
            case 11 -> x.anchorOf(k % 6, k % 13);
            case 12 -> x.score(k % 6, k % 38);
            case 13 -> x.anchors(k % 6);
            case 14 -> x.blockOf(0, 0);
            case 15 -> x.wouldTake(k % 38, 0);
            case 16 -> x.safest(0);
            case 17 -> x.clearest(0);
            case 18 -> x.count(k % 6);
            case 19 -> x.undo();
            case 20 -> x.type(59);
            case 21 -> x.clearText();
            case 22 -> x.fault(0);
            default -> x.play();
        };
    }
}
