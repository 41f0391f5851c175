/**
 * Promise 15: shuttle. In a busy loom the shuttle 4 is in the right box 0, 2 in the left box 2, the others are
 * in the drawer.
 */
public final class Promise15Test {
    public static void main(String[] args) {
        Promise.test(Promise15Test.class);
    }

    @Sentence({"`what`: 0 for its colour, 1 for its yarn, 2 for its side, 3 for its box",
        "Returns something about a shuttle.", "Returns the number;"})
    static void answersAll4NumbersOnBothSides() {
        DropBoxLoom x = Looms.busy();
        int[] left = {2, 19, 0, 2};
        int[] right = {9, 47, 1, 0};
        for (int what = 0; what < 4; what++) {
            Check.due("shuttle(2, " + what + ")", x.shuttle(2, what), left[what]);
            Check.due("shuttle(4, " + what + ")", x.shuttle(4, what), right[what]);
        }
    }

    @Sentence("`shuttle`: 0 to 4")
    static void takesTheShuttles0And4() {
        DropBoxLoom x = Looms.busy();
        Check.due("shuttle(0, 0)", x.shuttle(0, 0), 0);
        Check.due("shuttle(4, 0)", x.shuttle(4, 0), 9);
    }

    @Sentence("(2 and 3: NONE in the drawer)")
    static void answersNoneInTheDrawer() {
        DropBoxLoom x = Looms.busy();
        Check.due("side of one that never was in a box", x.shuttle(0, 2), DropBoxLoom.NONE);
        Check.due("box of one that never was in a box", x.shuttle(0, 3), DropBoxLoom.NONE);
        x.takeOut(2);
        Check.due("side of one that was taken out", x.shuttle(2, 2), DropBoxLoom.NONE);
        Check.due("box of one that was taken out", x.shuttle(2, 3), DropBoxLoom.NONE);
    }

    @Sentence("NO_SUCH if there is no such shuttle;")
    static void noSuchShuttle() {
        for (int asked = 0; asked < 4; asked++) {
            int what = asked;
            Calls.refusedOutside(0, 4, DropBoxLoom.NO_SUCH, (x, shuttle) -> x.shuttle(shuttle, what));
        }
    }

    @Sentence("BAD_VALUE if what is out of range.")
    static void badValueForWhat() {
        Calls.refusedOutside(0, 3, DropBoxLoom.BAD_VALUE, (x, what) -> x.shuttle(4, what));
        Calls.refusedOutside(0, 3, DropBoxLoom.BAD_VALUE, (x, what) -> x.shuttle(0, what));
    }

    @Sentence({"If several of them apply, the one that is named first in the @return line is returned.",
        "NO_SUCH if there is no such shuttle; BAD_VALUE if what is out of range."})
    static void noSuchBeforeBadValue() {
        Calls.refused("shuttle(5, 4)", x -> x.shuttle(5, 4), DropBoxLoom.NO_SUCH);
        Calls.refused("shuttle(-1, -1)", x -> x.shuttle(-1, -1), DropBoxLoom.NO_SUCH);
    }
}
