/** Promise 18: card. A busy loom has 3 cards. */
public final class Promise18Test {
    public static void main(String[] args) {
        Promise.test(Promise18Test.class);
    }

    @Sentence("`card`: number of the card")
    static void takesTheFirstAndTheLastCard() {
        int[] chains = {1, 2, 16};
        for (int cards : chains) {
            DropBoxLoom x = Looms.withCards(cards);
            Check.due("card(0, 0) of " + cards, x.card(0, 0), 0);
            Check.due("the last card of " + cards, x.card(cards - 1, 0), cards - 1);
            Check.due("the card behind it", x.card(cards, 0), DropBoxLoom.NO_SUCH);
        }
    }

    @Sentence("A card has a set of frames that are lifted (a bit mask, 0 to 63), a box of the left side and a box"
            + " of the right side.")
    static void hasABitForEachFrame() {
        for (int frames = 0; frames <= 63; frames++) {
            DropBoxLoom x = new DropBoxLoom();
            x.addCard(frames, 3, 1);
            Check.due("frames", x.card(0, 0), frames);
            Check.due("threads of " + frames, x.card(0, 3), frames | frames << 6);
            Check.due("left", x.card(0, 1), 3);
            Check.due("right", x.card(0, 2), 1);
        }
    }

    @Sentence({"`what`: 0 for its frames, 1 for its box of the left side, 2 for that of the right side,",
        "Returns something about a card.", "Returns the number;"})
    static void answersTheFirstAndTheLastCardOfAFullChain() {
        DropBoxLoom x = new DropBoxLoom();
        for (int card = 0; card < 16; card++) {
            x.addCard(63 - card, 3 - card / 4, card / 15);
        }
        int[] first = {63, 3, 0};
        int[] last = {48, 0, 1};
        for (int what = 0; what < 3; what++) {
            Check.due("card(0, " + what + ")", x.card(0, what), first[what]);
            Check.due("card(15, " + what + ")", x.card(15, what), last[what]);
        }
    }

    @Sentence("3 for the set of threads that it lifts")
    static void answersNoThreadAllThreadsAndThoseThatWereDrawn() {
        DropBoxLoom x = new DropBoxLoom();
        x.addCard(0, 0, 0);
        x.addCard(63, 0, 0);
        x.addCard(32, 0, 0);
        Check.due("no frame", x.card(0, 3), 0);
        Check.due("all frames", x.card(1, 3), 4095);
        Check.due("the last frame", x.card(2, 3), 1 << 5 | 1 << 11);
        x.draw(11, 0);
        Check.due("the last frame, one thread drawn out", x.card(2, 3), 1 << 5);
        x.draw(5, 0);
        Check.due("a frame without threads", x.card(2, 3), 0);
        Check.due("all frames", x.card(1, 3), 4095);
    }

    @Sentence("NO_SUCH if there is no such card;")
    static void noSuchCard() {
        for (int asked = 0; asked < 4; asked++) {
            int what = asked;
            Calls.refusedOutside(0, 2, DropBoxLoom.NO_SUCH, (x, card) -> x.card(card, what));
        }
    }

    @Sentence("NO_SUCH if there is no such card;")
    static void noSuchCardInAnEmptyChainAndInAFullOne() {
        Calls.refused(DropBoxLoom::new, "card(0, 0)", x -> x.card(0, 0), DropBoxLoom.NO_SUCH);
        Calls.refused(Looms::fullChain, "card(16, 0)", x -> x.card(16, 0), DropBoxLoom.NO_SUCH);
        DropBoxLoom x = Looms.fullChain();
        x.removeCard(0);
        Check.due("card(15, 0) after a removal", x.card(15, 0), DropBoxLoom.NO_SUCH);
    }

    @Sentence("BAD_VALUE if what is out of range.")
    static void badValueForWhat() {
        Calls.refusedOutside(0, 3, DropBoxLoom.BAD_VALUE, (x, what) -> x.card(0, what));
    }

    @Sentence({"If several of them apply, the one that is named first in the @return line is returned.",
        "NO_SUCH if there is no such card; BAD_VALUE if what is out of range."})
    static void noSuchBeforeBadValue() {
        Calls.refused("card(3, 4)", x -> x.card(3, 4), DropBoxLoom.NO_SUCH);
        Calls.refused("card(-1, -1)", x -> x.card(-1, -1), DropBoxLoom.NO_SUCH);
    }
}
