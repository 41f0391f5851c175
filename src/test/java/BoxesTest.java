/** Promises 1 to 5: a new object, putIn, takeOut, wind, moveBoxes. */
public final class BoxesTest {
    public static void main(String[] args) {
        newObject();
        putIn();
        takeOut();
        wind();
        moveBoxes();
        Check.end("BoxesTest");
    }

    private static void newObject() {
        DropBoxLoom x = new DropBoxLoom();
        int[] counts = {0, 0, 1, 0, 0, 0, 0, 0, 0, 0, DropBoxLoom.NONE, 0};
        for (int what = 0; what < counts.length; what++) {
            Check.due("new: count(" + what + ")", x.count(what), counts[what]);
        }
        for (int s = 0; s < 5; s++) {
            Check.due("new: colour of " + s, x.shuttle(s, 0), s);
            Check.due("new: yarn of " + s, x.shuttle(s, 1), 20);
            Check.due("new: side of " + s, x.shuttle(s, 2), DropBoxLoom.NONE);
            Check.due("new: box of " + s, x.shuttle(s, 3), DropBoxLoom.NONE);
        }
        for (int t = 0; t < 12; t++) {
            Check.due("new: frame of " + t, x.thread(t, 0), t % 6);
            Check.due("new: strength of " + t, x.thread(t, 1), 60);
            Check.due("new: lifted " + t, x.thread(t, 2), 0);
        }
        for (int box = 0; box < 6; box++) {
            Check.due("new: box " + box, x.inBox(box / 4, box % 4), DropBoxLoom.NONE);
        }
        Check.due("new: undo()", x.undo(), DropBoxLoom.NOT_POSSIBLE);
        Check.due("new: clearText()", x.clearText(), 0);
    }

    private static void putIn() {
        DropBoxLoom x = new DropBoxLoom();
        Check.due("putIn(4, 0, 3)", x.putIn(4, 0, 3), 1);
        Check.due("putIn(0, 1, 1)", x.putIn(0, 1, 1), 2);
        Check.due("side of 4", x.shuttle(4, 2), 0);
        Check.due("box of 4", x.shuttle(4, 3), 3);
        Check.due("side of 0", x.shuttle(0, 2), 1);
        Check.due("box of 0", x.shuttle(0, 3), 1);
        Check.due("left 3", x.inBox(0, 3), 4);
        Check.due("left 1 beside right 1", x.inBox(0, 1), DropBoxLoom.NONE);
        Check.refused(x, "putIn(-1, 0, 0)", () -> x.putIn(-1, 0, 0), DropBoxLoom.NO_SUCH);
        Check.refused(x, "putIn(5, 0, 0)", () -> x.putIn(5, 0, 0), DropBoxLoom.NO_SUCH);
        Check.refused(x, "putIn(1, -1, 0)", () -> x.putIn(1, -1, 0), DropBoxLoom.NO_SUCH);
        Check.refused(x, "putIn(1, 2, 0)", () -> x.putIn(1, 2, 0), DropBoxLoom.NO_SUCH);
        Check.refused(x, "putIn(1, 0, -1)", () -> x.putIn(1, 0, -1), DropBoxLoom.NO_SUCH);
        Check.refused(x, "putIn(1, 0, 4)", () -> x.putIn(1, 0, 4), DropBoxLoom.NO_SUCH);
        Check.refused(x, "putIn(1, 1, 2)", () -> x.putIn(1, 1, 2), DropBoxLoom.NO_SUCH);
        Check.refused(x, "putIn of one that is in a box", () -> x.putIn(4, 0, 0), DropBoxLoom.NOT_POSSIBLE);
        Check.refused(x, "putIn where it is", () -> x.putIn(4, 0, 3), DropBoxLoom.NOT_POSSIBLE);
        Check.refused(x, "putIn into a full box", () -> x.putIn(1, 1, 1), DropBoxLoom.NOT_POSSIBLE);
        Check.refused(x, "NO_SUCH before NOT_POSSIBLE", () -> x.putIn(4, 0, 9), DropBoxLoom.NO_SUCH);
        Check.due("putIn(1, 1, 0)", x.putIn(1, 1, 0), 3);
        Check.due("putIn(2, 0, 0)", x.putIn(2, 0, 0), 4);
        Check.due("putIn(3, 0, 1)", x.putIn(3, 0, 1), 5);
        Check.due("saved", Check.savedStates(x), 5);
    }

    private static void takeOut() {
        DropBoxLoom x = new DropBoxLoom();
        x.putIn(2, 1, 1);
        x.putIn(3, 0, 3);
        x.putIn(4, 0, 0);
        Check.refused(x, "takeOut(-1)", () -> x.takeOut(-1), DropBoxLoom.NO_SUCH);
        Check.refused(x, "takeOut(5)", () -> x.takeOut(5), DropBoxLoom.NO_SUCH);
        Check.refused(x, "takeOut of the drawer", () -> x.takeOut(0), DropBoxLoom.NOT_POSSIBLE);
        Check.due("takeOut(2)", x.takeOut(2), 11);
        Check.due("takeOut(3)", x.takeOut(3), 3);
        Check.due("takeOut(4)", x.takeOut(4), 0);
        Check.due("side of 2", x.shuttle(2, 2), DropBoxLoom.NONE);
        Check.due("box of 2", x.shuttle(2, 3), DropBoxLoom.NONE);
        Check.due("right 1", x.inBox(1, 1), DropBoxLoom.NONE);
        Check.due("again", x.takeOut(2), DropBoxLoom.NOT_POSSIBLE);
        Check.due("saved", Check.savedStates(x), 6);
    }

    private static void wind() {
        DropBoxLoom x = new DropBoxLoom();
        Check.due("wind(3, 0, 99)", x.wind(3, 0, 99), 20);
        Check.due("colour", x.shuttle(3, 0), 0);
        Check.due("yarn", x.shuttle(3, 1), 99);
        Check.due("wind(3, 9, 0)", x.wind(3, 9, 0), 99);
        Check.due("colour", x.shuttle(3, 0), 9);
        Check.due("yarn", x.shuttle(3, 1), 0);
        Check.due("another shuttle's colour", x.shuttle(2, 0), 2);
        x.putIn(3, 0, 0);
        Check.refused(x, "wind(-1, 0, 0)", () -> x.wind(-1, 0, 0), DropBoxLoom.NO_SUCH);
        Check.refused(x, "wind(5, 10, 0)", () -> x.wind(5, 10, 0), DropBoxLoom.NO_SUCH);
        Check.refused(x, "wind(0, -1, 0)", () -> x.wind(0, -1, 0), DropBoxLoom.BAD_VALUE);
        Check.refused(x, "wind(0, 10, 0)", () -> x.wind(0, 10, 0), DropBoxLoom.BAD_VALUE);
        Check.refused(x, "wind(0, 0, -1)", () -> x.wind(0, 0, -1), DropBoxLoom.BAD_VALUE);
        Check.refused(x, "wind(0, 0, 100)", () -> x.wind(0, 0, 100), DropBoxLoom.BAD_VALUE);
        Check.refused(x, "BAD_VALUE before NOT_POSSIBLE", () -> x.wind(3, 0, 100), DropBoxLoom.BAD_VALUE);
        Check.refused(x, "wind of one in a box", () -> x.wind(3, 0, 5), DropBoxLoom.NOT_POSSIBLE);
        Check.due("saved", Check.savedStates(x), 3);
    }

    private static void moveBoxes() {
        DropBoxLoom x = new DropBoxLoom();
        x.setSpeed(3);
        Check.due("moveBoxes(0, 3), further than the speed lets a pick", x.moveBoxes(0, 3), 0);
        Check.due("moveBoxes(1, 1)", x.moveBoxes(1, 1), 0);
        Check.due("left", x.count(3), 3);
        Check.due("right", x.count(4), 1);
        Check.due("moveBoxes(0, 1)", x.moveBoxes(0, 1), 3);
        Check.due("moveBoxes(1, 1)", x.moveBoxes(1, 1), 1);
        Check.refused(x, "moveBoxes(-1, 0)", () -> x.moveBoxes(-1, 0), DropBoxLoom.NO_SUCH);
        Check.refused(x, "moveBoxes(2, 0)", () -> x.moveBoxes(2, 0), DropBoxLoom.NO_SUCH);
        Check.refused(x, "moveBoxes(0, -1)", () -> x.moveBoxes(0, -1), DropBoxLoom.NO_SUCH);
        Check.refused(x, "moveBoxes(0, 4)", () -> x.moveBoxes(0, 4), DropBoxLoom.NO_SUCH);
        Check.refused(x, "moveBoxes(1, 2)", () -> x.moveBoxes(1, 2), DropBoxLoom.NO_SUCH);
        Check.due("saved", Check.savedStates(x), 5);
    }
}
