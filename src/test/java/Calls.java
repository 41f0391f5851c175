import java.util.function.Supplier;

/** What holds of a call in many promises: it is refused, it changes nothing, it is undoable, it ends taking back. */
final class Calls {
    private static final int MOST_SAVED = 6;
    private static final int MOST_ROWS = 20;

    interface Call {
        int made(DropBoxLoom loom);
    }

    interface CallWith {
        int made(DropBoxLoom loom, int value);
    }

    private Calls() {
    }

    /** Numbers outside of least to most: the two beside it, far ones, and those that mean NONE or wrap around. */
    static int[] outside(int least, int most) {
        return new int[] {least - 1, most + 1, DropBoxLoom.NONE, most + 256, most + 65536,
            Integer.MIN_VALUE, Integer.MIN_VALUE + least, Integer.MAX_VALUE};
    }

    /** A busy loom refuses the call with each value outside of least to most. */
    static void refusedOutside(int least, int most, int due, CallWith call) {
        for (int value : outside(least, most)) {
            refused("with " + value, x -> call.made(x, value), due);
        }
    }

    static void refused(String name, Call call, int due) {
        refused(Looms::busy, name, call, due);
    }

    /** The call answers the error code that is due, and changes nothing. */
    static void refused(Supplier<DropBoxLoom> begin, String name, Call call, int due) {
        Check.due(name, call.made(begin.get()), due);
        changesNothing(begin, name, call);
    }

    /** A loom goes on after the call as one that is made the same way, without the call. */
    static void changesNothing(Supplier<DropBoxLoom> begin, String name, Call call) {
        sameSavedStatesAndText(begin, name, call);
        sameTakingBack(begin, name, call);
    }

    private static void sameSavedStatesAndText(Supplier<DropBoxLoom> begin, String name, Call call) {
        DropBoxLoom x = begin.get();
        DropBoxLoom y = begin.get();
        call.made(x);
        Check.due("digest() after " + name, x.digest(), y.digest());
        Check.due("syntaxError() after " + name, x.syntaxError(), y.syntaxError());
        for (int i = 0; i <= MOST_SAVED; i++) {
            Check.due("undo() " + i + " after " + name, x.undo(), y.undo());
            Check.due("its digest()", x.digest(), y.digest());
        }
        Check.due("readCards() after " + name, x.readCards(), y.readCards());
        Check.due("its digest()", x.digest(), y.digest());
        Check.due("clearText() after " + name, x.clearText(), y.clearText());
    }

    private static void sameTakingBack(Supplier<DropBoxLoom> begin, String name, Call call) {
        DropBoxLoom x = begin.get();
        DropBoxLoom y = begin.get();
        call.made(x);
        for (int i = 0; i <= MOST_ROWS; i++) {
            Check.due("takeBack() " + i + " after " + name, x.takeBack(), y.takeBack());
            Check.due("its digest()", x.digest(), y.digest());
        }
    }

    static void undoable(String name, Call call) {
        undoable(Looms::busy, name, call);
    }

    /** The call saves one state, that from before it, on top of those that are saved already. */
    static void undoable(Supplier<DropBoxLoom> begin, String name, Call call) {
        DropBoxLoom x = begin.get();
        DropBoxLoom y = begin.get();
        int left = Math.min(Check.savedStates(begin.get()), MOST_SAVED - 1);
        Check.holds(name + " is possible", call.made(x) >= 0);
        Check.due("undo() of " + name, x.undo(), left);
        Check.due("its digest()", x.digest(), y.digest());
        for (int before = left - 1; before >= 0; before--) {
            Check.due("undo() of the calls before " + name, x.undo(), before);
            y.undo();
            Check.due("its digest()", x.digest(), y.digest());
        }
        Check.due("undo() of no more than that", x.undo(), DropBoxLoom.NOT_POSSIBLE);
    }

    /** The four picks of a busy loom can't be taken back after the call, but again after its undo(). */
    static void endsTakingBack(String name, Call call) {
        DropBoxLoom x = Looms.busy();
        Check.due("count(8) before " + name, x.count(8), 4);
        Check.holds(name + " is possible", call.made(x) >= 0);
        Check.due("count(8) after " + name, x.count(8), 0);
        Check.due("takeBack() after " + name, x.takeBack(), DropBoxLoom.NOT_POSSIBLE);
        x.undo();
        Check.due("count(8) after undo() of " + name, x.count(8), 4);
        Check.due("takeBack() after undo() of " + name, x.takeBack(), 0);
    }
}
