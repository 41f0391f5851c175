import java.util.ArrayList;
import java.util.List;

/** Promise 10: removeCard. */
public final class Promise10Test {
    private static final int CARDS = 5;

    public static void main(String[] args) {
        Promise.test(Promise10Test.class);
    }

    private static DropBoxLoom turnedTo(int place) {
        DropBoxLoom x = Looms.withCards(CARDS);
        x.turnTo(place);
        return x;
    }

    @Sentence("`card`: number of the card")
    static void takesTheFirstAndTheLastCard() {
        DropBoxLoom x = Looms.withCards(3);
        Check.due("removeCard(2)", x.removeCard(2), 2);
        Check.due("frames of 1", x.card(1, 0), 1);
        Check.due("removeCard(0)", x.removeCard(0), 1);
        Check.due("frames of 0", x.card(0, 0), 1);
    }

    @Sentence("Removes a card.")
    static void removesTheFirstTheLastAndEachOtherCardOfAFullChain() {
        for (int removed = 0; removed < 16; removed++) {
            DropBoxLoom x = Looms.withCards(16);
            Check.due("removeCard(" + removed + ")", x.removeCard(removed), 15);
            List<Integer> left = new ArrayList<>();
            for (int card = 0; card < 16; card++) {
                left.add(card);
            }
            left.remove(removed);
            for (int card = 0; card < 15; card++) {
                int was = left.get(card);
                Check.due("frames of " + card, x.card(card, 0), was);
                Check.due("left box of " + card, x.card(card, 1), was % 4);
                Check.due("right box of " + card, x.card(card, 2), was % 2);
            }
            Check.due("card(15, 0)", x.card(15, 0), DropBoxLoom.NO_SUCH);
        }
    }

    @Sentence("If it lies before the place, the place becomes 1 less;")
    static void makesThePlace1LessIfTheCardLiesBefore() {
        for (int place = 1; place < CARDS; place++) {
            for (int card = 0; card < place; card++) {
                DropBoxLoom x = turnedTo(place);
                x.removeCard(card);
                Check.due("place " + place + ", card " + card, x.count(1), place - 1);
                Check.due("the card that comes next stays", x.card(place - 1, 0), place);
            }
        }
    }

    @Sentence("If it lies before the place, the place becomes 1 less;")
    static void leavesThePlaceIfTheCardLiesAtItOrBehind() {
        for (int place = 0; place < CARDS; place++) {
            for (int card = place; card < CARDS; card++) {
                if (place < CARDS - 1) {
                    DropBoxLoom x = turnedTo(place);
                    x.removeCard(card);
                    Check.due("place " + place + ", card " + card, x.count(1), place);
                }
            }
        }
    }

    @Sentence("if the place is behind the last card then, it becomes 0.")
    static void makesThePlace0IfItIsAtTheLastCardThatIsRemoved() {
        DropBoxLoom x = turnedTo(CARDS - 1);
        x.removeCard(CARDS - 1);
        Check.due("place", x.count(1), 0);
        DropBoxLoom y = Looms.withCards(16);
        y.turnTo(15);
        y.removeCard(15);
        Check.due("place of a chain that was full", y.count(1), 0);
    }

    @Sentence({"it is 0 in an empty chain.", "if the place is behind the last card then, it becomes 0."})
    static void makesThePlace0InAnEmptyChain() {
        DropBoxLoom x = Looms.withCards(2);
        x.turnTo(1);
        x.removeCard(0);
        Check.due("place in a chain of one card", x.count(1), 0);
        Check.due("removeCard of the only card", x.removeCard(0), 0);
        Check.due("place", x.count(1), 0);
        Check.due("whyNot()", x.whyNot(), 1);
    }

    @Sentence("Returns the number of cards that are left;")
    static void returnsTheNumberThatIsLeftDownTo0() {
        DropBoxLoom x = Looms.withCards(16);
        for (int left = 15; left >= 0; left--) {
            Check.due("removeCard(0)", x.removeCard(0), left);
            Check.due("cards", x.count(0), left);
        }
    }

    @Sentence("NO_SUCH if there is no such card.")
    static void noSuchCard() {
        Calls.refusedOutside(0, 2, DropBoxLoom.NO_SUCH, DropBoxLoom::removeCard);
    }

    @Sentence("NO_SUCH if there is no such card.")
    static void noSuchCardInAnEmptyChain() {
        Calls.refused(DropBoxLoom::new, "removeCard(0)", x -> x.removeCard(0), DropBoxLoom.NO_SUCH);
        DropBoxLoom x = Looms.withCards(1);
        x.removeCard(0);
        Check.due("removeCard(0) of a chain that is empty again", x.removeCard(0), DropBoxLoom.NO_SUCH);
    }

    @Sentence("NO_SUCH if there is no such card.")
    static void noSuchCardInAFullChain() {
        Calls.refused(Looms::fullChain, "removeCard(16)", x -> x.removeCard(16), DropBoxLoom.NO_SUCH);
        Calls.refused(Looms::fullChain, "removeCard(-1)", x -> x.removeCard(-1), DropBoxLoom.NO_SUCH);
    }

    @Sentence("Undoable.")
    static void savesTheStateBefore() {
        for (int card = 0; card < 3; card++) {
            int removed = card;
            Calls.undoable("removeCard(" + card + ")", x -> x.removeCard(removed));
        }
        Calls.undoable(() -> Looms.withCards(1), "removeCard that answers 0", x -> x.removeCard(0));
    }

    @Sentence("(Each call of such another method that returns no error code counts as a change here.)")
    static void endsTakingBack() {
        Calls.endsTakingBack("removeCard", x -> x.removeCard(2));
    }
}
