/** Promise 1: a new object. */
public final class Promise01Test {
    public static void main(String[] args) {
        Promise.test(Promise01Test.class);
    }

    @Sentence({"Creates a loom without cards", "and a place, the number of the card that comes next; it is 0 in an empty chain."})
    static void hasNoCards() {
        DropBoxLoom x = new DropBoxLoom();
        Check.due("cards", x.count(0), 0);
        Check.due("place", x.count(1), 0);
        Check.due("card(0, 0)", x.card(0, 0), DropBoxLoom.NO_SUCH);
    }

    @Sentence({"with all shuttles in the drawer.",
        "There are 5 shuttles, 0 to 4; a shuttle is in a box, or it lies in the drawer, as all do at first."})
    static void hasAllShuttlesInTheDrawer() {
        DropBoxLoom x = new DropBoxLoom();
        for (int s = 0; s < 5; s++) {
            Check.due("side of " + s, x.shuttle(s, 2), DropBoxLoom.NONE);
            Check.due("box of " + s, x.shuttle(s, 3), DropBoxLoom.NONE);
        }
        for (int box = 0; box < 6; box++) {
            Check.due("inBox " + box, x.inBox(box / 4, box % 4), DropBoxLoom.NONE);
        }
    }

    @Sentence("A shuttle has a colour, 0 to 9, at first its own number, and yarn for 0 to 99 picks, at first 20.")
    static void hasShuttlesWithTheirOwnColoursAndYarnFor20Picks() {
        DropBoxLoom x = new DropBoxLoom();
        for (int s = 0; s < 5; s++) {
            Check.due("colour of " + s, x.shuttle(s, 0), s);
            Check.due("yarn of " + s, x.shuttle(s, 1), 20);
        }
    }

    @Sentence("On each side one box is at the race, at first the box 0.")
    static void hasTheBoxes0AtTheRaces() {
        DropBoxLoom x = new DropBoxLoom();
        Check.due("left", x.count(3), 0);
        Check.due("right", x.count(4), 0);
    }

    @Sentence("There are 6 frames, each of them down, as at first, or lifted.")
    static void hasAllFramesDown() {
        DropBoxLoom x = new DropBoxLoom();
        Check.due("lifted frames", x.count(5), 0);
        for (int t = 0; t < 12; t++) {
            Check.due("lifted " + t, x.thread(t, 2), 0);
        }
    }

    @Sentence("There are 12 threads; each is in a frame, thread t in the frame t modulo 6 at first,")
    static void hasThreadsInFramesThatWrapAroundBehindThread5() {
        DropBoxLoom x = new DropBoxLoom();
        int[] frames = {0, 1, 2, 3, 4, 5, 0, 1, 2, 3, 4, 5};
        for (int t = 0; t < 12; t++) {
            Check.due("frame of " + t, x.thread(t, 0), frames[t]);
        }
        Check.due("no thread 12", x.thread(12, 0), DropBoxLoom.NO_SUCH);
    }

    @Sentence("and has a strength, 0 to 99, at first 60.")
    static void hasThreadsOfStrength60() {
        DropBoxLoom x = new DropBoxLoom();
        for (int t = 0; t < 12; t++) {
            Check.due("strength of " + t, x.thread(t, 1), 60);
        }
    }

    @Sentence("The speed is 1, 2 or 3, at first 1.")
    static void hasTheSpeed1() {
        Check.due("speed", new DropBoxLoom().count(2), 1);
    }

    @Sentence({"There is a text of at most 80 characters,", "which is empty initially."})
    static void hasAnEmptyText() {
        Check.due("clearText()", new DropBoxLoom().clearText(), 0);
    }

    @Sentence({"Creates a loom", "At most 6 states are saved;"})
    static void hasNoPicksRowsStopsAndSavedStates() {
        DropBoxLoom x = new DropBoxLoom();
        int[] dues = {0, 0, 0, 0, DropBoxLoom.NONE, 0};
        for (int what = 6; what < 12; what++) {
            Check.due("count(" + what + ")", x.count(what), dues[what - 6]);
        }
        Check.due("cloth(0, 0)", x.cloth(0, 0), DropBoxLoom.NO_SUCH);
        Check.due("undo()", x.undo(), DropBoxLoom.NOT_POSSIBLE);
    }

    @Sentence("Creates a loom")
    static void hasNothingOfAnotherLoom() {
        long before = new DropBoxLoom().digest();
        DropBoxLoom other = Looms.full();
        DropBoxLoom x = new DropBoxLoom();
        Check.due("digest()", x.digest(), before);
        Check.due("clearText()", x.clearText(), 0);
        x.putIn(4, 1, 1);
        Check.due("rows of the other one", other.count(7), 20);
        Check.due("undo() of the other one", other.undo(), 5);
        Check.due("undo()", x.undo(), 0);
    }

    @Sentence("An object is used for at most 512 calls after it has been made")
    static void answers512Calls() {
        DropBoxLoom x = new DropBoxLoom();
        for (int call = 1; call < 512; call++) {
            Check.due("call " + call, x.mend(call % 12, call % 100), call <= 12 ? 60 : (call - 12) % 100);
        }
        Check.due("the last call", x.undo(), 5);
    }

    @Sentence({"`NO_SUCH = -1`: There is no such shuttle, box, frame, thread, card, row or side.",
        "`BAD_VALUE = -2`: Another argument is out of its range.",
        "`NOT_POSSIBLE = -3`: The call is not possible in the present state.",
        "`LIMIT = -4`: A limit would be exceeded.", "`BAD_TEXT = -5`: The text is not a card list.",
        "`NONE = -6`: There is no such result."})
    static void hasTheConstants() {
        int[] constants = {DropBoxLoom.NO_SUCH, DropBoxLoom.BAD_VALUE, DropBoxLoom.NOT_POSSIBLE,
            DropBoxLoom.LIMIT, DropBoxLoom.BAD_TEXT, DropBoxLoom.NONE};
        for (int i = 0; i < constants.length; i++) {
            Check.due("constant " + i, constants[i], -1 - i);
        }
    }
}
