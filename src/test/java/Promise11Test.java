/** Promise 11: turnTo. A busy loom has 3 cards and the place 1. */
public final class Promise11Test {
    public static void main(String[] args) {
        Promise.test(Promise11Test.class);
    }

    @Sentence({"`card`: number of the card that comes next", "Turns the chain to a card."})
    static void turnsToTheFirstAndTheLastCardOfAFullChain() {
        DropBoxLoom x = Looms.withCards(16);
        x.turnTo(15);
        Check.due("place", x.count(1), 15);
        x.turnTo(0);
        Check.due("place", x.count(1), 0);
    }

    @Sentence("Returns the previous place;")
    static void returnsThePlaces0And15() {
        DropBoxLoom x = Looms.withCards(16);
        Check.due("turnTo(15)", x.turnTo(15), 0);
        Check.due("turnTo(15) again", x.turnTo(15), 15);
        Check.due("turnTo(0)", x.turnTo(0), 15);
    }

    @Sentence("NO_SUCH if there is no such card.")
    static void noSuchCard() {
        Calls.refusedOutside(0, 2, DropBoxLoom.NO_SUCH, DropBoxLoom::turnTo);
    }

    @Sentence("NO_SUCH if there is no such card.")
    static void noSuchCardInAnEmptyChain() {
        Calls.refused(DropBoxLoom::new, "turnTo(0), though 0 is the place", x -> x.turnTo(0), DropBoxLoom.NO_SUCH);
    }

    @Sentence("NO_SUCH if there is no such card.")
    static void noSuchCardInAFullChain() {
        Calls.refused(Looms::fullChain, "turnTo(16)", x -> x.turnTo(16), DropBoxLoom.NO_SUCH);
    }

    @Sentence("Undoable.")
    static void savesTheStateBefore() {
        Calls.undoable("turnTo(0)", x -> x.turnTo(0));
        Calls.undoable("turnTo(2)", x -> x.turnTo(2));
    }

    @Sentence("(Each call of such another method that returns no error code counts as a change here.)")
    static void endsTakingBackEvenIfNothingBecomesOther() {
        Calls.endsTakingBack("turnTo the place", x -> x.turnTo(1));
    }
}
