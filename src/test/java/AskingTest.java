/** Promises 14 to 20: count, shuttle, inBox, thread, card, cloth, longestFloat. */
public final class AskingTest {
    public static void main(String[] args) {
        DropBoxLoom x = woven();
        count(x);
        shuttle(x);
        inBox(x);
        thread(x);
        card(x);
        cloth(x);
        longestFloat();
        Check.due("asking saves nothing", Check.savedStates(x), 6);
        Check.end("AskingTest");
    }

    /** Three picks: the shuttle 1 (colour 8) from the left to the right, then the shuttle 3 there and back. */
    private static DropBoxLoom woven() {
        DropBoxLoom x = new DropBoxLoom();
        x.wind(1, 8, 30);
        x.putIn(1, 0, 2);
        x.putIn(3, 0, 3);
        x.draw(11, 0);
        x.addCard(1, 2, 0);
        x.addCard(32, 3, 1);
        x.addCard(33, 3, 1);
        x.addCard(1, 1, 1);
        Check.due("weave(9)", x.weave(9), 3);
        return x;
    }

    private static void count(DropBoxLoom x) {
        int[] counts = {4, 3, 1, 3, 1, 33, 3, 3, 3, 5, DropBoxLoom.NONE, 1};
        for (int what = 0; what < counts.length; what++) {
            Check.due("count(" + what + ")", x.count(what), counts[what]);
        }
        Check.due("count(12)", x.count(12), DropBoxLoom.BAD_VALUE);
        Check.due("count(-1)", x.count(-1), DropBoxLoom.BAD_VALUE);
    }

    private static void shuttle(DropBoxLoom x) {
        int[] numbers = {8, 29, 1, 0};
        int[] others = {3, 18, 0, 3};
        for (int what = 0; what < 4; what++) {
            Check.due("shuttle(1, " + what + ")", x.shuttle(1, what), numbers[what]);
            Check.due("shuttle(3, " + what + ")", x.shuttle(3, what), others[what]);
        }
        Check.due("shuttle(0, 2)", x.shuttle(0, 2), DropBoxLoom.NONE);
        Check.due("shuttle(0, 3)", x.shuttle(0, 3), DropBoxLoom.NONE);
        Check.due("shuttle(0, 4)", x.shuttle(0, 4), DropBoxLoom.BAD_VALUE);
        Check.due("shuttle(0, -1)", x.shuttle(0, -1), DropBoxLoom.BAD_VALUE);
        Check.due("shuttle(5, 4)", x.shuttle(5, 4), DropBoxLoom.NO_SUCH);
        Check.due("shuttle(-1, 0)", x.shuttle(-1, 0), DropBoxLoom.NO_SUCH);
    }

    private static void inBox(DropBoxLoom x) {
        int none = DropBoxLoom.NONE;
        int[] boxes = {none, none, none, 3, 1, none};
        for (int i = 0; i < boxes.length; i++) {
            Check.due("inBox(" + i / 4 + ", " + i % 4 + ")", x.inBox(i / 4, i % 4), boxes[i]);
        }
        Check.due("inBox(-1, 0)", x.inBox(-1, 0), DropBoxLoom.NO_SUCH);
        Check.due("inBox(2, 0)", x.inBox(2, 0), DropBoxLoom.NO_SUCH);
        Check.due("inBox(0, -1)", x.inBox(0, -1), DropBoxLoom.NO_SUCH);
        Check.due("inBox(0, 4)", x.inBox(0, 4), DropBoxLoom.NO_SUCH);
        Check.due("inBox(1, 2)", x.inBox(1, 2), DropBoxLoom.NO_SUCH);
        Check.due("inBox(NONE, NONE), as in the drawer", x.inBox(none, none), DropBoxLoom.NO_SUCH);
    }

    private static void thread(DropBoxLoom x) {
        Check.due("thread(11, 0)", x.thread(11, 0), 0);
        Check.due("thread(11, 1)", x.thread(11, 1), 57);
        Check.due("thread(11, 2)", x.thread(11, 2), 1);
        Check.due("thread(5, 1)", x.thread(5, 1), 59);
        Check.due("thread(5, 2)", x.thread(5, 2), 1);
        Check.due("thread(4, 1)", x.thread(4, 1), 60);
        Check.due("thread(4, 2)", x.thread(4, 2), 0);
        Check.due("thread(0, 3)", x.thread(0, 3), DropBoxLoom.BAD_VALUE);
        Check.due("thread(0, -1)", x.thread(0, -1), DropBoxLoom.BAD_VALUE);
        Check.due("thread(12, 3)", x.thread(12, 3), DropBoxLoom.NO_SUCH);
        Check.due("thread(-1, 0)", x.thread(-1, 0), DropBoxLoom.NO_SUCH);
    }

    private static void card(DropBoxLoom x) {
        int[] numbers = {33, 3, 1, 1 | 1 << 5 | 1 << 6 | 1 << 11};
        for (int what = 0; what < 4; what++) {
            Check.due("card(2, " + what + ")", x.card(2, what), numbers[what]);
        }
        Check.due("card(1, 3)", x.card(1, 3), 1 << 5);
        Check.due("card(0, 4)", x.card(0, 4), DropBoxLoom.BAD_VALUE);
        Check.due("card(0, -1)", x.card(0, -1), DropBoxLoom.BAD_VALUE);
        Check.due("card(4, 4)", x.card(4, 4), DropBoxLoom.NO_SUCH);
        Check.due("card(-1, 0)", x.card(-1, 0), DropBoxLoom.NO_SUCH);
    }

    private static void cloth(DropBoxLoom x) {
        int[] threads = {0, 4, 5, 6, 11};
        int[][] rows = {{100, 3, 105, 106, 111}, {3, 3, 105, 3, 3}, {100, 8, 8, 106, 111}};
        for (int row = 0; row < rows.length; row++) {
            for (int i = 0; i < threads.length; i++) {
                Check.due("cloth(" + row + ", " + threads[i] + ")", x.cloth(row, threads[i]), rows[row][i]);
            }
        }
        Check.due("cloth(3, 0)", x.cloth(3, 0), DropBoxLoom.NO_SUCH);
        Check.due("cloth(-1, 0)", x.cloth(-1, 0), DropBoxLoom.NO_SUCH);
        Check.due("cloth(0, 12)", x.cloth(0, 12), DropBoxLoom.NO_SUCH);
        Check.due("cloth(0, -1)", x.cloth(0, -1), DropBoxLoom.NO_SUCH);
        DropBoxLoom y = new DropBoxLoom();
        Check.due("cloth(0, 0) of no cloth", y.cloth(0, 0), DropBoxLoom.NO_SUCH);
    }

    /** The frame 0 is up, up, down, down, down, up; the frame 1 always down; the frame 2 always up. */
    private static void longestFloat() {
        DropBoxLoom x = new DropBoxLoom();
        Check.due("longestFloat(0) without rows", x.longestFloat(0), 0);
        x.wind(0, 0, 99);
        x.putIn(0, 0, 0);
        int[] frames = {5, 5, 4, 4, 4, 5};
        int[] floats = {1, 2, 2, 2, 3, 3};
        for (int i = 0; i < frames.length; i++) {
            x.addCard(frames[i], 0, 0);
        }
        for (int i = 0; i < frames.length; i++) {
            x.weave(1);
            Check.due("longestFloat(6)", x.longestFloat(6), floats[i]);
            Check.due("longestFloat(1)", x.longestFloat(1), i + 1);
            Check.due("longestFloat(2)", x.longestFloat(2), i + 1);
        }
        x.weave(40);
        Check.due("longestFloat(1) of all rows", x.longestFloat(1), 20);
        Check.due("longestFloat(12)", x.longestFloat(12), DropBoxLoom.NO_SUCH);
        Check.due("longestFloat(-1)", x.longestFloat(-1), DropBoxLoom.NO_SUCH);
    }
}
