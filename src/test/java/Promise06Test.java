/** Promise 6: draw. */
public final class Promise06Test {
    public static void main(String[] args) {
        Promise.test(Promise06Test.class);
    }

    @Sentence("Draws a thread into another frame.")
    static void drawsThisThreadAlone() {
        DropBoxLoom x = new DropBoxLoom();
        x.draw(7, 4);
        for (int t = 0; t < 12; t++) {
            Check.due("frame of " + t, x.thread(t, 0), t == 7 ? 4 : t % 6);
            Check.due("strength of " + t, x.thread(t, 1), 60);
        }
    }

    @Sentence("`thread`: 0 to 11")
    static void takesTheThreads0And11() {
        DropBoxLoom x = new DropBoxLoom();
        Check.due("draw(0, 3)", x.draw(0, 3), 0);
        Check.due("draw(11, 2)", x.draw(11, 2), 5);
        Check.due("frame of 0", x.thread(0, 0), 3);
        Check.due("frame of 11", x.thread(11, 0), 2);
    }

    @Sentence("`frame`: 0 to 5")
    static void takesTheFrames0And5() {
        DropBoxLoom x = new DropBoxLoom();
        x.draw(3, 0);
        Check.due("frame", x.thread(3, 0), 0);
        x.draw(3, 5);
        Check.due("frame", x.thread(3, 0), 5);
    }

    @Sentence("Returns the previous frame;")
    static void returnsTheFrames0And5() {
        DropBoxLoom x = new DropBoxLoom();
        Check.due("draw(3, 0)", x.draw(3, 0), 3);
        Check.due("draw(3, 5)", x.draw(3, 5), 0);
        Check.due("draw(3, 5) again", x.draw(3, 5), 5);
    }

    @Sentence("NO_SUCH if there is no such thread or frame.")
    static void noSuchThread() {
        Calls.refusedOutside(0, 11, DropBoxLoom.NO_SUCH, (x, thread) -> x.draw(thread, 0));
    }

    @Sentence("NO_SUCH if there is no such thread or frame.")
    static void noSuchFrame() {
        Calls.refusedOutside(0, 5, DropBoxLoom.NO_SUCH, (x, frame) -> x.draw(0, frame));
    }

    @Sentence("Undoable.")
    static void savesTheStateBefore() {
        Calls.undoable("draw", x -> x.draw(11, 0));
    }

    @Sentence("(Each call of such another method that returns no error code counts as a change here.)")
    static void endsTakingBackEvenIfNothingBecomesOther() {
        Calls.endsTakingBack("draw into the same frame", x -> x.draw(11, 5));
    }
}
