/** Promise 7: mend. */
public final class Promise07Test {
    public static void main(String[] args) {
        Promise.test(Promise07Test.class);
    }

    @Sentence("Mends a thread: it gets another strength.")
    static void mendsThisThreadAlone() {
        DropBoxLoom x = new DropBoxLoom();
        x.mend(7, 4);
        for (int t = 0; t < 12; t++) {
            Check.due("strength of " + t, x.thread(t, 1), t == 7 ? 4 : 60);
            Check.due("frame of " + t, x.thread(t, 0), t % 6);
        }
    }

    @Sentence("`thread`: 0 to 11")
    static void takesTheThreads0And11() {
        DropBoxLoom x = new DropBoxLoom();
        Check.due("mend(0, 3)", x.mend(0, 3), 60);
        Check.due("mend(11, 2)", x.mend(11, 2), 60);
        Check.due("strength of 0", x.thread(0, 1), 3);
        Check.due("strength of 11", x.thread(11, 1), 2);
    }

    @Sentence("`strength`: 0 to 99")
    static void takesTheStrengths0And99() {
        DropBoxLoom x = new DropBoxLoom();
        x.mend(3, 0);
        Check.due("strength", x.thread(3, 1), 0);
        x.mend(3, 99);
        Check.due("strength", x.thread(3, 1), 99);
    }

    @Sentence("Returns the previous strength;")
    static void returnsTheStrengths0And99() {
        DropBoxLoom x = new DropBoxLoom();
        Check.due("mend(3, 0)", x.mend(3, 0), 60);
        Check.due("mend(3, 99)", x.mend(3, 99), 0);
        Check.due("mend(3, 99) again", x.mend(3, 99), 99);
    }

    @Sentence("A thread is broken if its strength is 0.")
    static void breaksAThreadByStrength0AndMendsItByStrength1() {
        DropBoxLoom x = Looms.plain(5);
        x.mend(3, 0);
        Check.due("whyNot()", x.whyNot(), 2);
        x.mend(3, 1);
        Check.due("whyNot()", x.whyNot(), 0);
    }

    @Sentence("NO_SUCH if there is no such thread;")
    static void noSuchThread() {
        Calls.refusedOutside(0, 11, DropBoxLoom.NO_SUCH, (x, thread) -> x.mend(thread, 1));
    }

    @Sentence("BAD_VALUE if strength is out of range.")
    static void badValueForTheStrength() {
        Calls.refusedOutside(0, 99, DropBoxLoom.BAD_VALUE, (x, strength) -> x.mend(0, strength));
    }

    @Sentence({"If several of them apply, the one that is named first in the @return line is returned.",
        "NO_SUCH if there is no such thread; BAD_VALUE if strength is out of range."})
    static void noSuchBeforeBadValue() {
        Calls.refused("too strong", x -> x.mend(12, 100), DropBoxLoom.NO_SUCH);
        Calls.refused("too weak", x -> x.mend(-1, -1), DropBoxLoom.NO_SUCH);
    }

    @Sentence("Undoable.")
    static void savesTheStateBefore() {
        Calls.undoable("mend", x -> x.mend(11, 0));
    }

    @Sentence("(Each call of such another method that returns no error code counts as a change here.)")
    static void endsTakingBackEvenIfNothingBecomesOther() {
        Calls.endsTakingBack("mend as it is", x -> x.mend(11, 60));
    }
}
