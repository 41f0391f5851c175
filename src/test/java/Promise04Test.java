/** Promise 4: wind. In a busy loom the shuttles 0, 1 and 3 lie in the drawer, 2 and 4 in boxes. */
public final class Promise04Test {
    public static void main(String[] args) {
        Promise.test(Promise04Test.class);
    }

    @Sentence("Gives a shuttle in the drawer another colour and yarn.")
    static void givesThisShuttleAloneItsColourAndYarn() {
        DropBoxLoom x = new DropBoxLoom();
        x.wind(3, 8, 7);
        for (int s = 0; s < 5; s++) {
            Check.due("colour of " + s, x.shuttle(s, 0), s == 3 ? 8 : s);
            Check.due("yarn of " + s, x.shuttle(s, 1), s == 3 ? 7 : 20);
        }
    }

    @Sentence("`shuttle`: 0 to 4")
    static void takesTheShuttles0And4() {
        DropBoxLoom x = new DropBoxLoom();
        Check.due("wind(0, 5, 5)", x.wind(0, 5, 5), 20);
        Check.due("wind(4, 6, 6)", x.wind(4, 6, 6), 20);
        Check.due("colour of 0", x.shuttle(0, 0), 5);
        Check.due("colour of 4", x.shuttle(4, 0), 6);
    }

    @Sentence("`colour`: 0 to 9")
    static void takesTheColours0And9() {
        DropBoxLoom x = new DropBoxLoom();
        Check.due("wind(1, 0, 20)", x.wind(1, 0, 20), 20);
        Check.due("colour", x.shuttle(1, 0), 0);
        Check.due("wind(1, 9, 20)", x.wind(1, 9, 20), 20);
        Check.due("colour", x.shuttle(1, 0), 9);
    }

    @Sentence({"`yarn`: 0 to 99", "Returns the yarn that it had;"})
    static void takesAndReturnsTheYarn0And99() {
        DropBoxLoom x = new DropBoxLoom();
        Check.due("wind(1, 1, 0)", x.wind(1, 1, 0), 20);
        Check.due("yarn", x.shuttle(1, 1), 0);
        Check.due("wind(1, 1, 99)", x.wind(1, 1, 99), 0);
        Check.due("yarn", x.shuttle(1, 1), 99);
        Check.due("wind(1, 1, 1)", x.wind(1, 1, 1), 99);
    }

    @Sentence("Returns the yarn that it had;")
    static void returnsTheYarnThatIsLeftAfterPicks() {
        DropBoxLoom x = Looms.busy();
        x.takeOut(4);
        Check.due("wind(4, 0, 0)", x.wind(4, 0, 0), 47);
    }

    @Sentence("NO_SUCH if there is no such shuttle;")
    static void noSuchShuttle() {
        Calls.refusedOutside(0, 4, DropBoxLoom.NO_SUCH, (x, shuttle) -> x.wind(shuttle, 0, 0));
    }

    @Sentence("BAD_VALUE if colour or yarn is out of range;")
    static void badValueForTheColour() {
        Calls.refusedOutside(0, 9, DropBoxLoom.BAD_VALUE, (x, colour) -> x.wind(0, colour, 0));
    }

    @Sentence("BAD_VALUE if colour or yarn is out of range;")
    static void badValueForTheYarn() {
        Calls.refusedOutside(0, 99, DropBoxLoom.BAD_VALUE, (x, yarn) -> x.wind(0, 0, yarn));
    }

    @Sentence("NOT_POSSIBLE if it is not in the drawer.")
    static void notPossibleInABox() {
        Calls.refused("on the left side", x -> x.wind(2, 0, 0), DropBoxLoom.NOT_POSSIBLE);
        Calls.refused("on the right side", x -> x.wind(4, 0, 0), DropBoxLoom.NOT_POSSIBLE);
    }

    @Sentence({"If several of them apply, the one that is named first in the @return line is returned.",
        "NO_SUCH if there is no such shuttle; BAD_VALUE if colour or yarn is out of range;"})
    static void noSuchBeforeBadValue() {
        Calls.refused("a bad colour", x -> x.wind(5, 10, 0), DropBoxLoom.NO_SUCH);
        Calls.refused("a bad yarn", x -> x.wind(-1, 0, 100), DropBoxLoom.NO_SUCH);
    }

    @Sentence({"If several of them apply, the one that is named first in the @return line is returned.",
        "BAD_VALUE if colour or yarn is out of range; NOT_POSSIBLE if it is not in the drawer."})
    static void badValueBeforeNotPossible() {
        Calls.refused("a bad colour", x -> x.wind(4, -1, 0), DropBoxLoom.BAD_VALUE);
        Calls.refused("a bad yarn", x -> x.wind(2, 0, -1), DropBoxLoom.BAD_VALUE);
    }

    @Sentence("Undoable.")
    static void savesTheStateBefore() {
        Calls.undoable("wind", x -> x.wind(0, 9, 99));
    }

    @Sentence("(Each call of such another method that returns no error code counts as a change here.)")
    static void endsTakingBackEvenIfNothingBecomesOther() {
        Calls.endsTakingBack("wind as it is", x -> x.wind(0, 0, 20));
    }
}
