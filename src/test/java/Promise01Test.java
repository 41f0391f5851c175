/** Promise 1: a new object. */
public final class Promise01Test {
    public static void main(String[] args) {
        Promise.test(Promise01Test.class);
    }

    @Sentence("Creates a loom without cards")
    static void hasNoCards() {
        DropBoxLoom x = new DropBoxLoom();
        Check.due("cards", x.count(0), 0);
        Check.due("card(0, 0)", x.card(0, 0), DropBoxLoom.NO_SUCH);
    }

    @Sentence({"it is 0 in an empty chain.", "and a place, the number of the card that comes next;"})
    static void hasThePlace0() {
        Check.due("place", new DropBoxLoom().count(1), 0);
    }

    @Sentence("with all shuttles in the drawer.")
    static void hasAllShuttlesInTheDrawer() {
        DropBoxLoom x = new DropBoxLoom();
        for (int s = 0; s < 5; s++) {
            Check.due("side of " + s, x.shuttle(s, 2), DropBoxLoom.NONE);
            Check.due("box of " + s, x.shuttle(s, 3), DropBoxLoom.NONE);
        }
    }

    @Sentence("There are 5 shuttles, 0 to 4;")
    static void hasTheShuttles0To4() {
        DropBoxLoom x = new DropBoxLoom();
        for (int s = -1; s <= 5; s++) {
            Check.due("colour of " + s, x.shuttle(s, 0), s < 0 || s > 4 ? DropBoxLoom.NO_SUCH : s);
        }
    }

    @Sentence("Everything is numbered from 0.")
    static void numbersAllFrom0() {
        DropBoxLoom x = new DropBoxLoom();
        Check.due("the shuttle 0, the side 0 and the box 0", x.putIn(0, 0, 0), 1);
        Check.due("the first card", x.addCard(1, 0, 0), 0);
        Check.due("the threads of the frame 0", x.card(0, 3), 1 | 1 << 6);
        Check.due("weave(1)", x.weave(1), 1);
        Check.due("the row 0, the thread 0", x.cloth(0, 0), 100);
    }

    @Sentence("a shuttle is in a box, or it lies in the drawer, as all do at first.")
    static void hasEmptyBoxes() {
        DropBoxLoom x = new DropBoxLoom();
        for (int box = 0; box < 6; box++) {
            Check.due("inBox " + box, x.inBox(box / 4, box % 4), DropBoxLoom.NONE);
        }
    }

    @Sentence("A shuttle has a colour, 0 to 9, at first its own number, and yarn for 0 to 99 picks, at first 20.")
    static void hasShuttlesWithTheirOwnColoursAndYarnFor20Picks() {
        DropBoxLoom x = new DropBoxLoom();
        for (int s = 0; s < 5; s++) {
            Check.due("colour of " + s, x.shuttle(s, 0), s);
            Check.due("yarn of " + s, x.shuttle(s, 1), 20);
        }
    }

    @Sentence("On each side one box is at the race, at first the box 0.")
    static void hasTheBoxes0AtTheRaces() {
        DropBoxLoom x = new DropBoxLoom();
        Check.due("left", x.count(3), 0);
        Check.due("right", x.count(4), 0);
    }

    @Sentence("There are 6 frames, each of them down, as at first, or lifted.")
    static void hasAllFramesDown() {
        DropBoxLoom x = new DropBoxLoom();
        Check.due("lifted frames", x.count(5), 0);
        for (int t = 0; t < 12; t++) {
            Check.due("lifted " + t, x.thread(t, 2), 0);
        }
    }

    @Sentence("There are 12 threads; each is in a frame, thread t in the frame t modulo 6 at first,")
    static void hasThreadsInFramesThatWrapAroundBehindThread5() {
        DropBoxLoom x = new DropBoxLoom();
        int[] frames = {0, 1, 2, 3, 4, 5, 0, 1, 2, 3, 4, 5};
        for (int t = 0; t < 12; t++) {
            Check.due("frame of " + t, x.thread(t, 0), frames[t]);
        }
        Check.due("no thread 12", x.thread(12, 0), DropBoxLoom.NO_SUCH);
    }

    @Sentence("and has a strength, 0 to 99, at first 60.")
    static void hasThreadsOfStrength60() {
        DropBoxLoom x = new DropBoxLoom();
        for (int t = 0; t < 12; t++) {
            Check.due("strength of " + t, x.thread(t, 1), 60);
        }
    }

    @Sentence("The speed is 1, 2 or 3, at first 1.")
    static void hasTheSpeed1() {
        Check.due("speed", new DropBoxLoom().count(2), 1);
    }

    @Sentence({"There is a text of at most 80 characters,", "which is empty initially."})
    static void hasAnEmptyText() {
        Check.due("clearText()", new DropBoxLoom().clearText(), 0);
    }

    @Sentence({"Creates a loom", "At most 6 states are saved;"})
    static void hasNoPicksRowsStopsAndSavedStates() {
        DropBoxLoom x = new DropBoxLoom();
        int[] dues = {0, 0, 0, 0, DropBoxLoom.NONE, 0};
        for (int what = 6; what < 12; what++) {
            Check.due("count(" + what + ")", x.count(what), dues[what - 6]);
        }
        Check.due("cloth(0, 0)", x.cloth(0, 0), DropBoxLoom.NO_SUCH);
        Check.due("undo()", x.undo(), DropBoxLoom.NOT_POSSIBLE);
    }

    @Sentence("Creates a loom")
    static void hasNothingOfAnotherLoom() {
        long before = new DropBoxLoom().digest();
        DropBoxLoom other = Looms.full();
        DropBoxLoom x = new DropBoxLoom();
        Check.due("digest()", x.digest(), before);
        Check.due("clearText()", x.clearText(), 0);
        x.putIn(4, 1, 1);
        Check.due("rows of the other one", other.count(7), 20);
        Check.due("undo() of the other one", other.undo(), 5);
        Check.due("undo()", x.undo(), 0);
    }

    @Sentence("An object is used for at most 512 calls after it has been made")
    static void answers512Calls() {
        DropBoxLoom x = new DropBoxLoom();
        for (int call = 1; call < 512; call++) {
            Check.due("call " + call, x.mend(call % 12, call % 100), call <= 12 ? 60 : (call - 12) % 100);
        }
        Check.due("the last call", x.undo(), 5);
    }

    @Sentence("`NO_SUCH = -1`: There is no such shuttle, box, frame, thread, card, row or side.")
    static void hasNoSuch() {
        Check.due("NO_SUCH", DropBoxLoom.NO_SUCH, -1);
        Check.due("card(0, 0)", new DropBoxLoom().card(0, 0), -1);
    }

    @Sentence("`BAD_VALUE = -2`: Another argument is out of its range.")
    static void hasBadValue() {
        Check.due("BAD_VALUE", DropBoxLoom.BAD_VALUE, -2);
        Check.due("count(12)", new DropBoxLoom().count(12), -2);
    }

    @Sentence("`NOT_POSSIBLE = -3`: The call is not possible in the present state.")
    static void hasNotPossible() {
        Check.due("NOT_POSSIBLE", DropBoxLoom.NOT_POSSIBLE, -3);
        Check.due("undo()", new DropBoxLoom().undo(), -3);
    }

    @Sentence("`LIMIT = -4`: A limit would be exceeded.")
    static void hasLimit() {
        Check.due("LIMIT", DropBoxLoom.LIMIT, -4);
        Check.due("a 17th card", Looms.withCards(16).addCard(0, 0, 0), -4);
    }

    @Sentence("`BAD_TEXT = -5`: The text is not a card list.")
    static void hasBadText() {
        Check.due("BAD_TEXT", DropBoxLoom.BAD_TEXT, -5);
        Check.due("readCards()", new DropBoxLoom().readCards(), -5);
    }

    @Sentence("`NONE = -6`: There is no such result.")
    static void hasNone() {
        Check.due("NONE", DropBoxLoom.NONE, -6);
        Check.due("inBox(0, 0)", new DropBoxLoom().inBox(0, 0), -6);
    }

    @Sentence("NONE is not an error code.")
    static void hasNoneApartFromTheErrorCodes() {
        int[] codes = {DropBoxLoom.NO_SUCH, DropBoxLoom.BAD_VALUE, DropBoxLoom.NOT_POSSIBLE, DropBoxLoom.LIMIT,
            DropBoxLoom.BAD_TEXT};
        for (int code : codes) {
            Check.holds("NONE is not " + code, code != DropBoxLoom.NONE);
        }
    }
}
