/**
 * Promise 3: takeOut. In a busy loom the shuttle 4 is in the right box 0, 2 in the left box 2, the others are
 * in the drawer.
 */
public final class Promise03Test {
    public static void main(String[] args) {
        Promise.test(Promise03Test.class);
    }

    @Sentence("Takes a shuttle out of its box into the drawer.")
    static void leavesTheBoxEmptyAndTheShuttleInTheDrawer() {
        DropBoxLoom x = Looms.busy();
        x.takeOut(2);
        Check.due("side", x.shuttle(2, 2), DropBoxLoom.NONE);
        Check.due("box", x.shuttle(2, 3), DropBoxLoom.NONE);
        Check.due("inBox(0, 2)", x.inBox(0, 2), DropBoxLoom.NONE);
        Check.due("yarn", x.shuttle(2, 1), 19);
        Check.due("the other one stays", x.inBox(1, 0), 4);
    }

    @Sentence("`shuttle`: 0 to 4")
    static void takesTheShuttles0And4() {
        DropBoxLoom x = new DropBoxLoom();
        x.putIn(0, 0, 1);
        x.putIn(4, 0, 2);
        Check.due("takeOut(4)", x.takeOut(4), 2);
        Check.due("takeOut(0)", x.takeOut(0), 1);
    }

    @Sentence("Returns 10 * the side + the box in which it was;")
    static void returnsEachOfTheSixBoxes() {
        int[] dues = {0, 1, 2, 3, 10, 11};
        for (int box = 0; box < 6; box++) {
            DropBoxLoom x = new DropBoxLoom();
            x.putIn(1, box / 4, box % 4);
            Check.due("takeOut", x.takeOut(1), dues[box]);
        }
    }

    @Sentence("NO_SUCH if there is no such shuttle;")
    static void noSuchShuttle() {
        Calls.refusedOutside(0, 4, DropBoxLoom.NO_SUCH, DropBoxLoom::takeOut);
    }

    @Sentence("NOT_POSSIBLE if it is in the drawer.")
    static void notPossibleFromTheDrawer() {
        Calls.refused("one that never was in a box", x -> x.takeOut(0), DropBoxLoom.NOT_POSSIBLE);
        Calls.refused(() -> {
            DropBoxLoom x = Looms.busy();
            x.takeOut(4);
            return x;
        }, "one that was taken out", x -> x.takeOut(4), DropBoxLoom.NOT_POSSIBLE);
    }

    @Sentence("Undoable.")
    static void savesTheStateBefore() {
        Calls.undoable("takeOut", x -> x.takeOut(4));
    }

    @Sentence("(Each call of such another method that returns no error code counts as a change here.)")
    static void endsTakingBack() {
        Calls.endsTakingBack("takeOut", x -> x.takeOut(4));
    }
}
