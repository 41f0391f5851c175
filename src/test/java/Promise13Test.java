import java.util.List;

/** Promise 13: takeBack, with the sentences of "Taking back". */
public final class Promise13Test {
    private static final String ON_THE_CLOTH = "The latest pick can be taken back as long as its row is on the cloth";
    private static final String NO_OTHER_CALL =
            "and no call of another Undoable method than weave() and takeBack() changed anything since:";
    private static final String ALL_AS_BEFORE =
            "then all is as it was before that pick, but the strengths of the threads,"
                    + " and the latest stop and the number of stops, which stay;";

    public static void main(String[] args) {
        Promise.test(Promise13Test.class);
    }

    private static DropBoxLoom woven(int picks) {
        DropBoxLoom x = Looms.moving(99);
        for (int made = 0; made < picks; made++) {
            x.weave(1);
        }
        return x;
    }

    private static int takenBack(DropBoxLoom x) {
        int taken = 0;
        while (taken < 100 && x.takeBack() >= 0) {
            taken++;
        }
        return taken;
    }

    @Sentence({"Takes the latest pick back.", "Returns the card of this pick;"})
    static void returnsTheCardOfThePickPastTheFirstCard() {
        DropBoxLoom x = Looms.plain(20);
        x.addCard(0, 1, 1);
        x.turnTo(2);
        Check.due("weave(5)", x.weave(5), 5);
        int[] cards = {0, 2, 1, 0, 2};
        for (int card : cards) {
            Check.due("takeBack()", x.takeBack(), card);
            Check.due("place", x.count(1), card);
        }
    }

    @Sentence("Returns the card of this pick;")
    static void returnsTheCard15OfAFullChain() {
        DropBoxLoom x = Looms.full();
        x.turnTo(15);
        Check.due("weave(1)", x.weave(1), 1);
        Check.due("place", x.count(1), 0);
        Check.due("takeBack()", x.takeBack(), 15);
    }

    @Sentence("NOT_POSSIBLE if it cannot be taken back.")
    static void notPossibleWithoutAPick() {
        Calls.refused(DropBoxLoom::new, "a new loom", DropBoxLoom::takeBack, DropBoxLoom.NOT_POSSIBLE);
        Calls.refused(() -> Looms.plain(5), "a loom that could weave", DropBoxLoom::takeBack, DropBoxLoom.NOT_POSSIBLE);
    }

    @Sentence("NOT_POSSIBLE if it cannot be taken back.")
    static void notPossibleAfterAllPicksAreTakenBack() {
        Calls.refused(() -> {
            DropBoxLoom x = woven(3);
            Check.due("picks taken back", takenBack(x), 3);
            return x;
        }, "takeBack()", DropBoxLoom::takeBack, DropBoxLoom.NOT_POSSIBLE);
    }

    @Sentence("NOT_POSSIBLE if it cannot be taken back.")
    static void notPossibleAfterAWeaveThatMakesNoPick() {
        DropBoxLoom x = Looms.plain(0);
        x.weave(5);
        Check.due("takeBack()", x.takeBack(), DropBoxLoom.NOT_POSSIBLE);
    }

    @Sentence(ON_THE_CLOTH)
    static void takesBack20PicksAndNotThe21st() {
        for (int picks = 19; picks <= 22; picks++) {
            DropBoxLoom x = woven(picks);
            Check.due("picks taken back of " + picks, takenBack(x), Math.min(picks, 20));
            Check.due("rows", x.count(7), 0);
            Check.due("picks", x.count(6), Math.max(picks - 20, 0));
            Check.due("takeBack()", x.takeBack(), DropBoxLoom.NOT_POSSIBLE);
        }
    }

    @Sentence(ON_THE_CLOTH)
    static void takesBackWhatIsWovenAfterTakingBack() {
        DropBoxLoom x = woven(25);
        for (int i = 0; i < 5; i++) {
            x.takeBack();
        }
        Check.due("weave(3)", x.weave(3), 3);
        Check.due("rows", x.count(7), 18);
        Check.due("count(8)", x.count(8), 18);
        Check.due("picks taken back", takenBack(x), 18);
        Check.due("picks", x.count(6), 5);
        Check.due("weave(1)", x.weave(1), 1);
        Check.due("picks taken back then", takenBack(x), 1);
    }

    @Sentence(NO_OTHER_CALL)
    static void takesBackNoPickFromBeforeAnotherCall() {
        DropBoxLoom x = woven(6);
        x.setSpeed(2);
        Check.due("takeBack()", x.takeBack(), DropBoxLoom.NOT_POSSIBLE);
        Check.due("weave(2)", x.weave(2), 2);
        Check.due("picks taken back", takenBack(x), 2);
        Check.due("rows", x.count(7), 6);
        Check.due("picks", x.count(6), 6);
    }

    @Sentence(NO_OTHER_CALL)
    static void takesBackAfterRefusedCallsOfOtherMethods() {
        Calls.Call[] refused = {
            x -> x.putIn(2, 0, 0), x -> x.takeOut(0), x -> x.wind(2, 0, 0), x -> x.moveBoxes(0, 4), x -> x.draw(0, 6),
            x -> x.mend(0, 100), x -> x.setSpeed(4), x -> x.addCard(0, 4, 0), x -> x.removeCard(2), x -> x.turnTo(2),
            DropBoxLoom::readCards};
        for (int i = 0; i < refused.length; i++) {
            DropBoxLoom x = woven(2);
            Check.holds("call " + i + " is refused", refused[i].made(x) < 0);
            Check.due("picks taken back after call " + i, takenBack(x), 2);
        }
    }

    @Sentence(NO_OTHER_CALL)
    static void takesBackAfterCallsThatAreNotUndoable() {
        DropBoxLoom x = woven(2);
        Check.typeText(x, "L0R0;");
        x.clearText();
        Asked.all(x);
        x.syntaxError();
        x.digest();
        Check.due("picks taken back", takenBack(x), 2);
    }

    @Sentence({NO_OTHER_CALL, "The state is everything except the text and the saved states."})
    static void takesBackAgainAfterUndoOfAnotherCall() {
        DropBoxLoom x = woven(2);
        x.mend(0, 60);
        Check.due("takeBack()", x.takeBack(), DropBoxLoom.NOT_POSSIBLE);
        x.undo();
        Check.due("picks taken back", takenBack(x), 2);
    }

    @Sentence(ALL_AS_BEFORE)
    static void restoresAllButTheStrengthsAndTheStops() {
        for (int picks = 0; picks < 4; picks++) {
            DropBoxLoom x = pickOf(Looms.busy(), picks + 1);
            DropBoxLoom y = pickOf(Looms.busy(), picks);
            x.takeBack();
            List<Integer> got = Asked.allButStopsAndStrengths(x);
            Check.holds("all after " + picks, got.equals(Asked.allButStopsAndStrengths(y)));
        }
    }

    private static DropBoxLoom pickOf(DropBoxLoom x, int picks) {
        for (int made = 0; made < picks; made++) {
            Check.due("weave(1)", x.weave(1), 1);
        }
        return x;
    }

    @Sentence(ALL_AS_BEFORE)
    static void restoresTheBoxesAtTheRaceThatWereMovedByHand() {
        DropBoxLoom x = Looms.plain(9);
        x.moveBoxes(0, 3);
        x.moveBoxes(1, 0);
        Check.due("weave(2)", x.weave(2), 2);
        x.takeBack();
        Check.due("left after the first pick", x.count(3), 1);
        Check.due("right after the first pick", x.count(4), 1);
        x.takeBack();
        Check.due("left", x.count(3), 3);
        Check.due("right", x.count(4), 0);
    }

    @Sentence(ALL_AS_BEFORE)
    static void restoresTheShuttleItsSideItsBoxAndItsYarn() {
        DropBoxLoom x = Looms.plain(1);
        x.weave(1);
        Check.due("yarn", x.shuttle(2, 1), 0);
        x.takeBack();
        int[] numbers = {7, 1, 0, 1};
        for (int what = 0; what < 4; what++) {
            Check.due("shuttle(2, " + what + ")", x.shuttle(2, what), numbers[what]);
        }
    }

    @Sentence(ALL_AS_BEFORE)
    static void leavesTheStrengths() {
        DropBoxLoom x = Looms.moving(9);
        x.mend(4, 1);
        x.weave(1);
        x.takeBack();
        Check.due("strength", x.thread(0, 1), 59);
        Check.due("strength of the thread that broke", x.thread(4, 1), 0);
        Check.due("lifted frames", x.count(5), 0);
        Check.due("whyNot()", x.whyNot(), 2);
        x.mend(4, 9);
        x.weave(1);
        Check.due("strength after the pick is made again", x.thread(0, 1), 58);
    }

    @Sentence(ALL_AS_BEFORE)
    static void leavesTheLatestStopAndTheNumberOfStops() {
        DropBoxLoom x = Looms.plain(3);
        x.weave(4);
        x.weave(4);
        x.takeBack();
        Check.due("reason", x.count(9), 6);
        Check.due("number", x.count(10), 2);
        Check.due("stops", x.count(11), 2);
    }

    @Sentence("a row that left the cloth by that pick does not come back.")
    static void leavesTheRowAwayThatLeftTheCloth() {
        DropBoxLoom x = woven(21);
        DropBoxLoom y = woven(20);
        x.takeBack();
        Check.due("rows", x.count(7), 19);
        for (int row = 0; row < 19; row++) {
            Check.due("row " + row, x.cloth(row, 3), y.cloth(row, 3));
        }
        Check.due("row 19", x.cloth(19, 3), DropBoxLoom.NO_SUCH);
        Check.due("row 19 of the other one", y.cloth(19, 3), 103);
    }

    @Sentence("Undoable.")
    static void savesTheStateBefore() {
        Calls.undoable("takeBack()", DropBoxLoom::takeBack);
        Calls.undoable(() -> woven(21), "takeBack() that answers 0", DropBoxLoom::takeBack);
    }

    @Sentence("Undoable.")
    static void bringsThePickBackByUndo() {
        DropBoxLoom x = woven(20);
        long before = x.digest();
        x.takeBack();
        x.undo();
        Check.due("digest()", x.digest(), before);
        Check.due("picks taken back", takenBack(x), 20);
    }
}
