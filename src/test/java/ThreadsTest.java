/** Promises 6 to 8: draw, mend, setSpeed. */
public final class ThreadsTest {
    public static void main(String[] args) {
        draw();
        drawBetweenPicks();
        mend();
        setSpeed();
        Check.end("ThreadsTest");
    }

    private static void draw() {
        DropBoxLoom x = new DropBoxLoom();
        Check.due("draw(11, 0)", x.draw(11, 0), 5);
        Check.due("draw(11, 5)", x.draw(11, 5), 0);
        Check.due("draw(0, 5)", x.draw(0, 5), 0);
        Check.due("frame", x.thread(0, 0), 5);
        Check.due("strength", x.thread(0, 1), 60);
        Check.refused(x, "draw(-1, 0)", () -> x.draw(-1, 0), DropBoxLoom.NO_SUCH);
        Check.refused(x, "draw(12, 0)", () -> x.draw(12, 0), DropBoxLoom.NO_SUCH);
        Check.refused(x, "draw(0, -1)", () -> x.draw(0, -1), DropBoxLoom.NO_SUCH);
        Check.refused(x, "draw(0, 6)", () -> x.draw(0, 6), DropBoxLoom.NO_SUCH);
        Check.due("saved", Check.savedStates(x), 3);
    }

    /** A thread is lifted with its frame of now; it wears out only when that frame moves. */
    private static void drawBetweenPicks() {
        DropBoxLoom x = new DropBoxLoom();
        x.putIn(0, 0, 0);
        x.addCard(1, 0, 0);
        x.weave(1);
        x.draw(1, 0);
        Check.due("lifted by being drawn", x.thread(1, 2), 1);
        Check.due("the card lifts it", x.card(0, 3), 1 | 2 | 1 << 6);
        Check.due("strength after being drawn", x.thread(1, 1), 60);
        Check.due("the row stays", x.cloth(0, 1), 0);
        x.weave(1);
        Check.due("strength, its frame stood still", x.thread(1, 1), 60);
        Check.due("the new row", x.cloth(0, 1), 101);
        Check.due("the old row", x.cloth(1, 1), 0);
    }

    private static void mend() {
        DropBoxLoom x = new DropBoxLoom();
        Check.due("mend(11, 99)", x.mend(11, 99), 60);
        Check.due("mend(11, 0)", x.mend(11, 0), 99);
        Check.due("strength", x.thread(11, 1), 0);
        Check.due("mend(11, 7)", x.mend(11, 7), 0);
        Check.due("another one", x.thread(10, 1), 60);
        Check.refused(x, "mend(-1, 0)", () -> x.mend(-1, 0), DropBoxLoom.NO_SUCH);
        Check.refused(x, "mend(12, 100)", () -> x.mend(12, 100), DropBoxLoom.NO_SUCH);
        Check.refused(x, "mend(0, -1)", () -> x.mend(0, -1), DropBoxLoom.BAD_VALUE);
        Check.refused(x, "mend(0, 100)", () -> x.mend(0, 100), DropBoxLoom.BAD_VALUE);
        Check.due("saved", Check.savedStates(x), 3);
    }

    private static void setSpeed() {
        DropBoxLoom x = new DropBoxLoom();
        Check.due("setSpeed(3)", x.setSpeed(3), 1);
        Check.due("setSpeed(2)", x.setSpeed(2), 3);
        Check.due("count(2)", x.count(2), 2);
        Check.due("setSpeed(1)", x.setSpeed(1), 2);
        Check.refused(x, "setSpeed(0)", () -> x.setSpeed(0), DropBoxLoom.BAD_VALUE);
        Check.refused(x, "setSpeed(4)", () -> x.setSpeed(4), DropBoxLoom.BAD_VALUE);
        Check.due("saved", Check.savedStates(x), 3);
    }
}
