/** Promise 14: count. */
public final class Promise14Test {
    public static void main(String[] args) {
        Promise.test(Promise14Test.class);
    }

    @Sentence({"Returns a number of the loom.", "Returns the number;"})
    static void answersAll12Numbers() {
        int[] dues = {3, 1, 1, 1, 0, 5, 4, 4, 4, 1, DropBoxLoom.NONE, 1};
        DropBoxLoom x = Looms.busy();
        for (int what = 0; what < dues.length; what++) {
            Check.due("count(" + what + ")", x.count(what), dues[what]);
        }
    }

    @Sentence("`what`: 0 for the number of cards, 1 for the place, 2 for the speed,")
    static void answersAFullChainsCardsAndItsLastPlaceAndTheGreatestSpeed() {
        DropBoxLoom x = Looms.withCards(16);
        x.turnTo(15);
        x.setSpeed(3);
        Check.due("count(0)", x.count(0), 16);
        Check.due("count(1)", x.count(1), 15);
        Check.due("count(2)", x.count(2), 3);
    }

    @Sentence("3 for the box at the race of the left side, 4 for that of the right side,")
    static void answersTheLastBoxesAtTheRace() {
        DropBoxLoom x = new DropBoxLoom();
        x.moveBoxes(0, 3);
        x.moveBoxes(1, 1);
        Check.due("count(3)", x.count(3), 3);
        Check.due("count(4)", x.count(4), 1);
    }

    @Sentence("5 for the set of lifted frames,")
    static void answersNoneAndAllLiftedFrames() {
        DropBoxLoom x = Looms.moving(9);
        x.weave(1);
        Check.due("count(5)", x.count(5), 63);
        x.weave(1);
        Check.due("count(5)", x.count(5), 0);
    }

    @Sentence("6 for the number of picks so far (those taken back do not count),")
    static void countsNoPicksThatWereTakenBackAndThoseWhoseRowsLeft() {
        DropBoxLoom x = Looms.plain(99);
        x.weave(30);
        Check.due("count(6)", x.count(6), 30);
        for (int taken = 1; taken <= 20; taken++) {
            x.takeBack();
            Check.due("count(6) after " + taken + " taken back", x.count(6), 30 - taken);
        }
        x.weave(4);
        Check.due("count(6)", x.count(6), 14);
    }

    @Sentence("7 for the number of rows on the cloth,")
    static void countsAtMost20Rows() {
        DropBoxLoom x = Looms.plain(99);
        for (int picks = 1; picks <= 25; picks++) {
            x.weave(1);
            Check.due("count(7) after " + picks, x.count(7), Math.min(picks, 20));
        }
    }

    @Sentence("8 for the number of picks that can be taken back now,")
    static void countsThePicksThatCanBeTakenBackFrom0To20() {
        DropBoxLoom x = Looms.plain(99);
        for (int picks = 1; picks <= 22; picks++) {
            x.weave(1);
            Check.due("count(8) after " + picks, x.count(8), Math.min(picks, 20));
        }
        x.takeBack();
        Check.due("count(8) after takeBack()", x.count(8), 19);
        x.setSpeed(1);
        Check.due("count(8) after a change", x.count(8), 0);
        x.weave(1);
        Check.due("count(8) after a pick", x.count(8), 1);
    }

    @Sentence("9 for the reason of the latest stop (0 if there was none),")
    static void answersTheReason0WithoutAStop() {
        DropBoxLoom x = Looms.plain(1);
        Check.due("count(9) of a new loom", x.count(9), 0);
        x.weave(1);
        Check.due("count(9) after a pick", x.count(9), 0);
        x.weave(1);
        Check.due("count(9) after a stop", x.count(9), 6);
    }

    @Sentence("10 for its number (NONE if there was none),")
    static void answersTheNumberNoneWithoutAStop() {
        DropBoxLoom x = Looms.plain(1);
        Check.due("count(10) of a new loom", x.count(10), DropBoxLoom.NONE);
        x.weave(1);
        Check.due("count(10) after a pick", x.count(10), DropBoxLoom.NONE);
        x.weave(1);
        Check.due("count(10) after a stop", x.count(10), 2);
    }

    @Sentence("11 for the number of stops so far")
    static void countsEachStop() {
        DropBoxLoom x = Looms.plain(2);
        Check.due("count(11)", x.count(11), 0);
        for (int stops = 1; stops <= 3; stops++) {
            x.weave(9);
            Check.due("count(11)", x.count(11), stops);
        }
        x.takeBack();
        Check.due("count(11) after takeBack()", x.count(11), 3);
        x.weave(1);
        Check.due("count(11) after a pick", x.count(11), 3);
    }

    @Sentence("BAD_VALUE if what is out of range.")
    static void badValueForWhat() {
        Calls.refusedOutside(0, 11, DropBoxLoom.BAD_VALUE, DropBoxLoom::count);
    }
}
