/** Promise 16: inBox. In a busy loom the shuttle 4 is in the right box 0, 2 in the left box 2. */
public final class Promise16Test {
    public static void main(String[] args) {
        Promise.test(Promise16Test.class);
    }

    @Sentence("`side`: 0 or 1")
    static void asksTheSides0And1() {
        DropBoxLoom x = new DropBoxLoom();
        x.putIn(4, 0, 1);
        Check.due("inBox(0, 1)", x.inBox(0, 1), 4);
        Check.due("inBox(1, 1)", x.inBox(1, 1), DropBoxLoom.NONE);
        x.putIn(3, 1, 1);
        Check.due("inBox(0, 1)", x.inBox(0, 1), 4);
        Check.due("inBox(1, 1)", x.inBox(1, 1), 3);
    }

    @Sentence("Returns the shuttle;")
    static void answersTheShuttles0And4() {
        DropBoxLoom x = new DropBoxLoom();
        x.putIn(0, 0, 2);
        x.putIn(4, 1, 0);
        Check.due("inBox(0, 2)", x.inBox(0, 2), 0);
        Check.due("inBox(1, 0)", x.inBox(1, 0), 4);
    }

    @Sentence({"`box`: number of the box", "Returns the shuttle in a box."})
    static void answersTheShuttlesInTheFirstAndTheLastBoxes() {
        DropBoxLoom x = new DropBoxLoom();
        x.putIn(4, 0, 0);
        x.putIn(3, 0, 3);
        x.putIn(1, 1, 0);
        x.putIn(0, 1, 1);
        Check.due("inBox(0, 0)", x.inBox(0, 0), 4);
        Check.due("inBox(0, 3)", x.inBox(0, 3), 3);
        Check.due("inBox(1, 0)", x.inBox(1, 0), 1);
        Check.due("inBox(1, 1)", x.inBox(1, 1), 0);
    }

    @Sentence("NONE if the box is empty.")
    static void answersNoneForAnEmptyBox() {
        DropBoxLoom x = Looms.busy();
        int none = DropBoxLoom.NONE;
        int[] dues = {none, none, 2, none, 4, none};
        for (int box = 0; box < 6; box++) {
            Check.due("inBox(" + box / 4 + ", " + box % 4 + ")", x.inBox(box / 4, box % 4), dues[box]);
        }
        x.takeOut(2);
        Check.due("inBox(0, 2)", x.inBox(0, 2), none);
    }

    @Sentence("NO_SUCH if there is no such side or box;")
    static void noSuchSide() {
        Calls.refusedOutside(0, 1, DropBoxLoom.NO_SUCH, (x, side) -> x.inBox(side, 0));
        Calls.refused("side and box as those of a shuttle in the drawer",
                x -> x.inBox(DropBoxLoom.NONE, DropBoxLoom.NONE), DropBoxLoom.NO_SUCH);
    }

    @Sentence("NO_SUCH if there is no such side or box;")
    static void noSuchBoxOfTheLeftSide() {
        Calls.refusedOutside(0, 3, DropBoxLoom.NO_SUCH, (x, box) -> x.inBox(0, box));
    }

    @Sentence("NO_SUCH if there is no such side or box;")
    static void noSuchBoxOfTheRightSide() {
        Calls.refusedOutside(0, 1, DropBoxLoom.NO_SUCH, (x, box) -> x.inBox(1, box));
        Calls.refused("the last box of the left side", x -> x.inBox(1, 3), DropBoxLoom.NO_SUCH);
    }
}
