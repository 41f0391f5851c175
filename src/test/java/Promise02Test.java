/**
 * Promise 2: putIn. In a busy loom the shuttles 0, 1 and 3 lie in the drawer, 4 in the right box 0, 2 in the
 * left box 2.
 */
public final class Promise02Test {
    public static void main(String[] args) {
        Promise.test(Promise02Test.class);
    }

    @Sentence("Puts a shuttle from the drawer into a box.")
    static void putsTheShuttleIntoThisBoxAlone() {
        for (int box = 0; box < 6; box++) {
            DropBoxLoom x = new DropBoxLoom();
            x.putIn(3, box / 4, box % 4);
            Check.due("side", x.shuttle(3, 2), box / 4);
            Check.due("box", x.shuttle(3, 3), box % 4);
            for (int other = 0; other < 6; other++) {
                int due = other == box ? 3 : DropBoxLoom.NONE;
                Check.due("inBox " + other, x.inBox(other / 4, other % 4), due);
            }
        }
    }

    @Sentence("`shuttle`: 0 to 4")
    static void takesTheShuttles0And4() {
        DropBoxLoom x = new DropBoxLoom();
        Check.due("putIn(0, 0, 0)", x.putIn(0, 0, 0), 1);
        Check.due("putIn(4, 0, 1)", x.putIn(4, 0, 1), 2);
    }

    @Sentence("`side`: 0 or 1")
    static void takesTheSides0And1() {
        DropBoxLoom x = new DropBoxLoom();
        Check.due("putIn(1, 0, 1)", x.putIn(1, 0, 1), 1);
        Check.due("putIn(2, 1, 1)", x.putIn(2, 1, 1), 2);
        Check.due("side of 1", x.shuttle(1, 2), 0);
        Check.due("side of 2", x.shuttle(2, 2), 1);
    }

    @Sentence("There are two sides, 0 left and 1 right. The left side has 4 boxes, the right side has 2.")
    static void has4BoxesOnTheLeftAnd2OnTheRightSideAndNoOthers() {
        for (int side = -1; side <= 2; side++) {
            int boxes = 0;
            for (int box = -2; box <= 6; box++) {
                boxes += new DropBoxLoom().putIn(0, side, box) == 1 ? 1 : 0;
            }
            Check.due("boxes of the side " + side, boxes, side == 0 ? 4 : side == 1 ? 2 : 0);
        }
    }

    @Sentence("A box is empty or has one shuttle.")
    static void hasNeverTwoShuttlesInABox() {
        DropBoxLoom x = new DropBoxLoom();
        Check.due("inBox", x.inBox(1, 0), DropBoxLoom.NONE);
        for (int s = 4; s >= 0; s--) {
            Check.due("putIn " + s, x.putIn(s, 1, 0), s == 4 ? 1 : DropBoxLoom.NOT_POSSIBLE);
            Check.due("inBox", x.inBox(1, 0), 4);
        }
    }

    @Sentence("`box`: 0 to 3 on the left side, 0 or 1 on the right side")
    static void takesTheFirstAndTheLastBoxOfBothSides() {
        int[][] boxes = {{0, 0}, {0, 3}, {1, 0}, {1, 1}};
        for (int s = 0; s < boxes.length; s++) {
            DropBoxLoom x = new DropBoxLoom();
            Check.due("putIn", x.putIn(s, boxes[s][0], boxes[s][1]), 1);
            Check.due("inBox", x.inBox(boxes[s][0], boxes[s][1]), s);
        }
    }

    @Sentence("Returns the number of shuttles in boxes then;")
    static void returnsTheNumberInBoxesOfBothSidesFrom1To5() {
        DropBoxLoom x = new DropBoxLoom();
        for (int s = 0; s < 5; s++) {
            Check.due("putIn " + s, x.putIn(s, s % 2, s / 2), s + 1);
            if (s == 3) {
                x.takeOut(1);
                Check.due("putIn again", x.putIn(1, 1, 0), 4);
            }
        }
    }

    @Sentence("NO_SUCH if there is no such shuttle, side or box;")
    static void noSuchShuttle() {
        Calls.refusedOutside(0, 4, DropBoxLoom.NO_SUCH, (x, shuttle) -> x.putIn(shuttle, 0, 0));
    }

    @Sentence("NO_SUCH if there is no such shuttle, side or box;")
    static void noSuchSide() {
        Calls.refusedOutside(0, 1, DropBoxLoom.NO_SUCH, (x, side) -> x.putIn(0, side, 0));
    }

    @Sentence("NO_SUCH if there is no such shuttle, side or box;")
    static void noSuchBoxOfTheLeftSide() {
        Calls.refusedOutside(0, 3, DropBoxLoom.NO_SUCH, (x, box) -> x.putIn(0, 0, box));
    }

    @Sentence("NO_SUCH if there is no such shuttle, side or box;")
    static void noSuchBoxOfTheRightSide() {
        Calls.refusedOutside(0, 1, DropBoxLoom.NO_SUCH, (x, box) -> x.putIn(0, 1, box));
        Calls.refused("the last box of the left side", x -> x.putIn(0, 1, 3), DropBoxLoom.NO_SUCH);
    }

    @Sentence("NOT_POSSIBLE if the shuttle is not in the drawer,")
    static void notPossibleForAShuttleInABox() {
        Calls.refused("on the right side", x -> x.putIn(4, 0, 0), DropBoxLoom.NOT_POSSIBLE);
        Calls.refused("on the left side", x -> x.putIn(2, 1, 1), DropBoxLoom.NOT_POSSIBLE);
        Calls.refused("into its own box", x -> x.putIn(2, 0, 2), DropBoxLoom.NOT_POSSIBLE);
    }

    @Sentence("or if the box is not empty.")
    static void notPossibleIntoABoxThatIsNotEmpty() {
        Calls.refused("left", x -> x.putIn(0, 0, 2), DropBoxLoom.NOT_POSSIBLE);
        Calls.refused("right", x -> x.putIn(3, 1, 0), DropBoxLoom.NOT_POSSIBLE);
        DropBoxLoom x = Looms.busy();
        x.takeOut(4);
        Check.due("putIn into a box that is empty again", x.putIn(3, 1, 0), 2);
    }

    @Sentence({"If several of them apply, the one that is named first in the @return line is returned.",
        "NO_SUCH if there is no such shuttle, side or box; NOT_POSSIBLE if"})
    static void noSuchBeforeNotPossible() {
        Calls.refused("a shuttle in a box, no such side", x -> x.putIn(4, 2, 0), DropBoxLoom.NO_SUCH);
        Calls.refused("a shuttle in a box, no such box", x -> x.putIn(4, 1, 2), DropBoxLoom.NO_SUCH);
        Calls.refused("a full box, no such shuttle", x -> x.putIn(5, 0, 2), DropBoxLoom.NO_SUCH);
    }

    @Sentence("Undoable.")
    static void savesTheStateBefore() {
        Calls.undoable("putIn", x -> x.putIn(0, 1, 1));
    }

    @Sentence("(Each call of such another method that returns no error code counts as a change here.)")
    static void endsTakingBack() {
        Calls.endsTakingBack("putIn", x -> x.putIn(0, 1, 1));
    }
}
