/** Promise 9: addCard. */
public final class Promise09Test {
    public static void main(String[] args) {
        Promise.test(Promise09Test.class);
    }

    @Sentence("Adds a card at the end of the chain.")
    static void addsAtTheEndOfAnEmptyChainAndOfALongerOne() {
        DropBoxLoom x = new DropBoxLoom();
        x.addCard(7, 2, 1);
        x.addCard(8, 3, 0);
        int[] numbers = {7, 2, 1, 8, 3, 0};
        for (int i = 0; i < numbers.length; i++) {
            Check.due("card(" + i / 3 + ", " + i % 3 + ")", x.card(i / 3, i % 3), numbers[i]);
        }
        Check.due("cards", x.count(0), 2);
    }

    @Sentence("Adds a card at the end of the chain.")
    static void leavesThePlace() {
        DropBoxLoom x = new DropBoxLoom();
        x.addCard(0, 0, 0);
        Check.due("place, 0 as in the empty chain", x.count(1), 0);
        x.addCard(0, 0, 0);
        x.turnTo(1);
        x.addCard(0, 0, 0);
        Check.due("place at the card that was the last one", x.count(1), 1);
    }

    @Sentence("`frames`: the frames that are lifted, 0 to 63")
    static void takesTheFrames0And63() {
        DropBoxLoom x = new DropBoxLoom();
        Check.due("addCard(0, 0, 0)", x.addCard(0, 0, 0), 0);
        Check.due("addCard(63, 0, 0)", x.addCard(63, 0, 0), 1);
        Check.due("frames of 0", x.card(0, 0), 0);
        Check.due("frames of 1", x.card(1, 0), 63);
    }

    @Sentence("`left`: 0 to 3")
    static void takesTheLeftBoxes0And3() {
        DropBoxLoom x = new DropBoxLoom();
        Check.due("addCard(1, 0, 1)", x.addCard(1, 0, 1), 0);
        Check.due("addCard(1, 3, 1)", x.addCard(1, 3, 1), 1);
        Check.due("left of 0", x.card(0, 1), 0);
        Check.due("left of 1", x.card(1, 1), 3);
    }

    @Sentence("`right`: 0 or 1")
    static void takesTheRightBoxes0And1() {
        DropBoxLoom x = new DropBoxLoom();
        Check.due("addCard(1, 2, 0)", x.addCard(1, 2, 0), 0);
        Check.due("addCard(1, 2, 1)", x.addCard(1, 2, 1), 1);
        Check.due("right of 0", x.card(0, 2), 0);
        Check.due("right of 1", x.card(1, 2), 1);
    }

    @Sentence("The chain has 0 to 16 cards,")
    static void makesAChainOf0To16Cards() {
        DropBoxLoom x = new DropBoxLoom();
        for (int calls = 0; calls <= 18; calls++) {
            Check.due("cards after " + calls, x.count(0), Math.min(calls, 16));
            x.addCard(0, 0, 0);
        }
    }

    @Sentence("Returns its number;")
    static void returns0InAnEmptyChainAnd15InOneOf15Cards() {
        DropBoxLoom x = new DropBoxLoom();
        for (int card = 0; card < 16; card++) {
            Check.due("addCard " + card, x.addCard(card, 1, 1), card);
        }
        x.removeCard(3);
        Check.due("addCard after a removal", x.addCard(63, 1, 1), 15);
    }

    @Sentence("BAD_VALUE if frames is out of range;")
    static void badValueForTheFrames() {
        Calls.refusedOutside(0, 63, DropBoxLoom.BAD_VALUE, (x, frames) -> x.addCard(frames, 0, 0));
    }

    @Sentence("NO_SUCH if there is no such box;")
    static void noSuchBoxOfTheLeftSide() {
        Calls.refusedOutside(0, 3, DropBoxLoom.NO_SUCH, (x, left) -> x.addCard(0, left, 0));
    }

    @Sentence("NO_SUCH if there is no such box;")
    static void noSuchBoxOfTheRightSide() {
        Calls.refusedOutside(0, 1, DropBoxLoom.NO_SUCH, (x, right) -> x.addCard(0, 0, right));
        Calls.refused("the last box of the left side", x -> x.addCard(0, 0, 3), DropBoxLoom.NO_SUCH);
    }

    @Sentence("LIMIT if the chain has 16 cards.")
    static void limitForA17thCard() {
        Calls.refused(Looms::fullChain, "a 17th card", x -> x.addCard(1, 2, 1), DropBoxLoom.LIMIT);
        DropBoxLoom x = Looms.fullChain();
        x.removeCard(15);
        Check.due("a 16th card", x.addCard(1, 2, 1), 15);
    }

    @Sentence({"If several of them apply, the one that is named first in the @return line is returned.",
        "BAD_VALUE if frames is out of range; NO_SUCH if there is no such box;"})
    static void badValueBeforeNoSuch() {
        Calls.refused("no such left box", x -> x.addCard(64, 4, 0), DropBoxLoom.BAD_VALUE);
        Calls.refused("no such right box", x -> x.addCard(-1, 0, 2), DropBoxLoom.BAD_VALUE);
    }

    @Sentence({"If several of them apply, the one that is named first in the @return line is returned.",
        "BAD_VALUE if frames is out of range; NO_SUCH if there is no such box; LIMIT if the chain has 16 cards."})
    static void badValueBeforeLimit() {
        Calls.refused(Looms::fullChain, "too many frames", x -> x.addCard(64, 0, 0), DropBoxLoom.BAD_VALUE);
    }

    @Sentence({"If several of them apply, the one that is named first in the @return line is returned.",
        "NO_SUCH if there is no such box; LIMIT if the chain has 16 cards."})
    static void noSuchBeforeLimit() {
        Calls.refused(Looms::fullChain, "no such left box", x -> x.addCard(0, -1, 0), DropBoxLoom.NO_SUCH);
        Calls.refused(Looms::fullChain, "no such right box", x -> x.addCard(0, 0, -1), DropBoxLoom.NO_SUCH);
    }

    @Sentence("Undoable.")
    static void savesTheStateBefore() {
        Calls.undoable("addCard", x -> x.addCard(1, 3, 1));
        Calls.undoable(DropBoxLoom::new, "addCard to an empty chain, which answers 0", x -> x.addCard(1, 3, 1));
    }

    @Sentence("(Each call of such another method that returns no error code counts as a change here.)")
    static void endsTakingBack() {
        Calls.endsTakingBack("addCard", x -> x.addCard(1, 3, 1));
    }
}
