/** Promise 17: thread. In a busy loom the frames 0 and 2 are lifted. */
public final class Promise17Test {
    public static void main(String[] args) {
        Promise.test(Promise17Test.class);
    }

    @Sentence("`thread`: 0 to 11")
    static void takesTheThreads0And11() {
        DropBoxLoom x = new DropBoxLoom();
        x.draw(0, 4);
        Check.due("thread(0, 0)", x.thread(0, 0), 4);
        Check.due("thread(11, 0)", x.thread(11, 0), 5);
    }

    @Sentence({"`what`: 0 for its frame, 1 for its strength,", "Returns something about a thread.",
        "Returns the number;"})
    static void answersTheFrameAndTheStrengthOfTheThreads0And11() {
        DropBoxLoom x = Looms.busy();
        x.mend(11, 99);
        Check.due("thread(0, 0)", x.thread(0, 0), 0);
        Check.due("thread(0, 1)", x.thread(0, 1), 57);
        Check.due("thread(11, 0)", x.thread(11, 0), 5);
        Check.due("thread(11, 1)", x.thread(11, 1), 99);
    }

    @Sentence("2 for 1 if it is lifted, otherwise 0")
    static void answersWhetherItsFrameOfNowIsLifted() {
        DropBoxLoom x = Looms.busy();
        for (int t = 0; t < 12; t++) {
            Check.due("thread(" + t + ", 2)", x.thread(t, 2), t % 6 == 0 || t % 6 == 2 ? 1 : 0);
        }
        x.draw(0, 5);
        x.draw(11, 0);
        Check.due("thread(0, 2) in a frame that is down", x.thread(0, 2), 0);
        Check.due("thread(11, 2) in a frame that is lifted", x.thread(11, 2), 1);
    }

    @Sentence("NO_SUCH if there is no such thread;")
    static void noSuchThread() {
        for (int asked = 0; asked < 3; asked++) {
            int what = asked;
            Calls.refusedOutside(0, 11, DropBoxLoom.NO_SUCH, (x, thread) -> x.thread(thread, what));
        }
    }

    @Sentence("BAD_VALUE if what is out of range.")
    static void badValueForWhat() {
        Calls.refusedOutside(0, 2, DropBoxLoom.BAD_VALUE, (x, what) -> x.thread(0, what));
    }

    @Sentence({"If several of them apply, the one that is named first in the @return line is returned.",
        "NO_SUCH if there is no such thread; BAD_VALUE if what is out of range."})
    static void noSuchBeforeBadValue() {
        Calls.refused("thread(12, 3)", x -> x.thread(12, 3), DropBoxLoom.NO_SUCH);
        Calls.refused("thread(-1, -1)", x -> x.thread(-1, -1), DropBoxLoom.NO_SUCH);
    }
}
