import java.util.function.Supplier;

/** Promise 28: readCards. */
public final class Promise28Test {
    public static void main(String[] args) {
        Promise.test(Promise28Test.class);
    }

    private static DropBoxLoom withCardsAndText(int cards, String text) {
        DropBoxLoom x = Looms.withCards(cards);
        Check.typeText(x, text);
        return x;
    }

    private static void refused(int cards, String text, int due) {
        Supplier<DropBoxLoom> begin = () -> withCardsAndText(cards, text);
        Calls.refused(begin, "readCards() of " + text + " with " + cards + " cards", DropBoxLoom::readCards, due);
    }

    private static void stays(int cards, String text) {
        DropBoxLoom x = withCardsAndText(cards, text);
        Check.holds("readCards() is refused", x.readCards() < 0);
        Check.due("clearText()", x.clearText(), text.length());
    }

    @Sentence("Adds the cards of the text at the end of the chain,")
    static void addsCardsWithTheLeastAndTheGreatestNumbers() {
        DropBoxLoom x = withCardsAndText(1, "L0R0;012345L3R1;5L2R0");
        Check.due("readCards()", x.readCards(), 4);
        int[][] cards = {{0, 0, 0, 0}, {0, 0, 0, 0}, {63, 3, 1, 4095}, {32, 2, 0, 1 << 5 | 1 << 11}};
        for (int i = 0; i < 16; i++) {
            Check.due("card(" + i / 4 + ", " + i % 4 + ")", x.card(i / 4, i % 4), cards[i / 4][i % 4]);
        }
        Check.due("the place stays", x.count(1), 0);
    }

    @Sentence("and makes the text empty.")
    static void makesTheTextEmpty() {
        DropBoxLoom x = withCardsAndText(0, "L0R0");
        x.readCards();
        Check.due("clearText()", x.clearText(), 0);
        DropBoxLoom y = withCardsAndText(0, "L0R0;0L0R0");
        y.readCards();
        Check.due("readCards() again", y.readCards(), DropBoxLoom.BAD_TEXT);
        Check.due("type(48)", y.type(48), 1);
    }

    @Sentence("Returns the number of cards then;")
    static void returnsTheNumberFrom1To16() {
        Check.due("1 card", withCardsAndText(0, "L0R0").readCards(), 1);
        Check.due("16 cards of the text", withCardsAndText(0, "L0R0;".repeat(15) + "L0R0").readCards(), 16);
        Check.due("15 and 1", withCardsAndText(15, "L0R0").readCards(), 16);
        Check.due("13 and 3", withCardsAndText(13, "L0R0;L0R0;L0R0").readCards(), 16);
        Check.due("5 and 2", withCardsAndText(5, "L0R0;L0R0").readCards(), 7);
    }

    @Sentence("BAD_TEXT if the text is not a card list;")
    static void badTextForTheEmptyText() {
        refused(0, "", DropBoxLoom.BAD_TEXT);
        refused(3, "", DropBoxLoom.BAD_TEXT);
    }

    @Sentence("BAD_TEXT if the text is not a card list;")
    static void badTextForABeginningOfACardList() {
        String[] texts = {"0", "L", "L0", "L0R", "L0R0;", "L0R0;0", "L0R0;".repeat(16)};
        for (String text : texts) {
            refused(3, text, DropBoxLoom.BAD_TEXT);
        }
    }

    @Sentence("BAD_TEXT if the text is not a card list;")
    static void badTextForAnError() {
        String[] texts = {"L4R0", "L0R2", "6L0R0", "10L0R0", "00L0R0", "L0R0!", ";L0R0", "L0R0;;L0R0", "L0R0L0R0"};
        for (String text : texts) {
            refused(3, text, DropBoxLoom.BAD_TEXT);
        }
    }

    @Sentence("LIMIT if the chain would have more than 16 cards")
    static void limitFor17Cards() {
        refused(16, "L0R0", DropBoxLoom.LIMIT);
        refused(15, "L0R0;L0R0", DropBoxLoom.LIMIT);
        refused(1, "L0R0;".repeat(15) + "L0R0", DropBoxLoom.LIMIT);
    }

    @Sentence({"LIMIT if the chain would have more than 16 cards", "makes the text empty."})
    static void countsNoCardsOfALongerTextFromBefore() {
        DropBoxLoom x = withCardsAndText(15, "1L2R0;L0R0;L0R0");
        x.clearText();
        Check.typeText(x, "3L2R0");
        Check.due("readCards() of one card", x.readCards(), 16);
        DropBoxLoom y = withCardsAndText(12, "1L2R0;L0R0;L0R0");
        y.readCards();
        Check.typeText(y, "3L2R0");
        Check.due("readCards() of one card more", y.readCards(), 16);
    }

    @Sentence("all of them or none,")
    static void addsNoneOfTheCardsIfOneIsTooMuchOrWrong() {
        DropBoxLoom x = withCardsAndText(14, "0L0R0;0L0R0;0L0R0");
        Check.due("readCards(), one card too much", x.readCards(), DropBoxLoom.LIMIT);
        Check.due("cards", x.count(0), 14);
        DropBoxLoom y = withCardsAndText(14, "0L0R0;0L0R2");
        Check.due("readCards(), the last card is wrong", y.readCards(), DropBoxLoom.BAD_TEXT);
        Check.due("cards", y.count(0), 14);
    }

    @Sentence("(in both cases the text stays).")
    static void leavesTheTextByBadText() {
        stays(0, "L0R0;");
        stays(16, "L0R0;!");
        DropBoxLoom x = withCardsAndText(0, "1L2R0;");
        x.readCards();
        Check.typeText(x, "L0R0");
        Check.due("readCards() of the text that was finished", x.readCards(), 2);
        Check.due("frames", x.card(0, 0), 2);
    }

    @Sentence("(in both cases the text stays).")
    static void leavesTheTextByLimit() {
        stays(16, "L0R0");
        stays(15, "L0R0;L0R0");
        DropBoxLoom x = withCardsAndText(15, "1L2R0;L0R0");
        x.readCards();
        x.removeCard(0);
        Check.due("readCards() when there is room", x.readCards(), 16);
        Check.due("frames", x.card(14, 0), 2);
    }

    @Sentence({"If several of them apply, the one that is named first in the @return line is returned.",
        "BAD_TEXT if the text is not a card list; LIMIT if the chain would have more than 16 cards"})
    static void badTextBeforeLimit() {
        refused(16, "L0R0;", DropBoxLoom.BAD_TEXT);
        refused(16, "", DropBoxLoom.BAD_TEXT);
        refused(15, "L0R0;L0R0;L0R2", DropBoxLoom.BAD_TEXT);
    }

    @Sentence({"Undoable.", "The state is everything except the text and the saved states."})
    static void savesTheStateBeforeButNotTheText() {
        Calls.undoable("readCards()", DropBoxLoom::readCards);
        DropBoxLoom x = Looms.busy();
        x.readCards();
        x.undo();
        Check.due("clearText() after undo()", x.clearText(), 0);
    }

    @Sentence("(Each call of such another method that returns no error code counts as a change here.)")
    static void endsTakingBack() {
        Calls.endsTakingBack("readCards()", DropBoxLoom::readCards);
    }
}
