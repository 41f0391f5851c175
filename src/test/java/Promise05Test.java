/** Promise 5: moveBoxes. In a busy loom the left box 1 and the right box 0 are at the race. */
public final class Promise05Test {
    public static void main(String[] args) {
        Promise.test(Promise05Test.class);
    }

    @Sentence("`side`: 0 or 1")
    static void movesTheSide0AndTheSide1EachAlone() {
        DropBoxLoom x = new DropBoxLoom();
        x.moveBoxes(0, 1);
        Check.due("left", x.count(3), 1);
        Check.due("right", x.count(4), 0);
        DropBoxLoom y = new DropBoxLoom();
        y.moveBoxes(1, 1);
        Check.due("left", y.count(3), 0);
        Check.due("right", y.count(4), 1);
    }

    @Sentence("`box`: the box that comes to the race")
    static void bringsTheFirstAndTheLastBoxToTheRace() {
        DropBoxLoom x = new DropBoxLoom();
        int[] left = {3, 0, 2, 1};
        for (int box : left) {
            x.moveBoxes(0, box);
            x.moveBoxes(1, box % 2);
            Check.due("left", x.count(3), box);
            Check.due("right", x.count(4), box % 2);
        }
    }

    @Sentence("Moves the boxes of a side by hand.")
    static void isNotBoundToTheSpeed() {
        DropBoxLoom x = new DropBoxLoom();
        x.setSpeed(3);
        Check.due("3 places at the speed 3", x.moveBoxes(0, 3), 0);
        Check.due("3 places back", x.moveBoxes(0, 0), 3);
    }

    @Sentence("Returns the box that was at the race;")
    static void returnsTheBoxThatWasAtTheRaceOfThisSide() {
        DropBoxLoom x = new DropBoxLoom();
        Check.due("moveBoxes(0, 3)", x.moveBoxes(0, 3), 0);
        Check.due("moveBoxes(1, 1)", x.moveBoxes(1, 1), 0);
        Check.due("moveBoxes(0, 3), where it is", x.moveBoxes(0, 3), 3);
        Check.due("moveBoxes(1, 0)", x.moveBoxes(1, 0), 1);
    }

    @Sentence("NO_SUCH if there is no such side or box.")
    static void noSuchSide() {
        Calls.refusedOutside(0, 1, DropBoxLoom.NO_SUCH, (x, side) -> x.moveBoxes(side, 0));
    }

    @Sentence("NO_SUCH if there is no such side or box.")
    static void noSuchBoxOfTheLeftSide() {
        Calls.refusedOutside(0, 3, DropBoxLoom.NO_SUCH, (x, box) -> x.moveBoxes(0, box));
    }

    @Sentence("NO_SUCH if there is no such side or box.")
    static void noSuchBoxOfTheRightSide() {
        Calls.refusedOutside(0, 1, DropBoxLoom.NO_SUCH, (x, box) -> x.moveBoxes(1, box));
        Calls.refused("the last box of the left side", x -> x.moveBoxes(1, 3), DropBoxLoom.NO_SUCH);
    }

    @Sentence("Undoable.")
    static void savesTheStateBefore() {
        Calls.undoable("moveBoxes left", x -> x.moveBoxes(0, 3));
        Calls.undoable("moveBoxes right", x -> x.moveBoxes(1, 1));
    }

    @Sentence("(Each call of such another method that returns no error code counts as a change here.)")
    static void endsTakingBackEvenIfNothingBecomesOther() {
        Calls.endsTakingBack("moveBoxes to where they are", x -> x.moveBoxes(0, 1));
        Calls.endsTakingBack("moveBoxes to where they are, which answers 0", x -> x.moveBoxes(1, 0));
    }
}
