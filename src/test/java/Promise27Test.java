/** Promise 27: syntaxError, with the sentences of "Text". */
public final class Promise27Test {
    private static final String FIRST_CHARACTER = "Returns the index of the first character for which no card list,"
            + " of any length, begins with the characters of the text up to and including this one;";
    private static final String UNFINISHED =
            "the length of the text if there is no such character but the text is not a card list";
    private static final String CARD_LIST = "A card list is a text of the form card { \";\" card },";

    public static void main(String[] args) {
        Promise.test(Promise27Test.class);
    }

    private static void error(String text, int due) {
        DropBoxLoom x = Looms.withText(text);
        Check.due("syntaxError() of " + text, x.syntaxError(), due);
        Check.due("the length of the text " + text + " then", x.clearText(), text.length());
    }

    /** Of all signs that can be typed, these alone can stand behind the beginning; the others are the error. */
    private static void goesOn(String beginning, String signs) {
        for (char sign = 33; sign <= 126; sign++) {
            DropBoxLoom x = Looms.withText(beginning + sign);
            int error = x.syntaxError();
            boolean isError = error == beginning.length();
            Check.holds(beginning + sign + " goes on: " + error, isError == (signs.indexOf(sign) < 0));
        }
    }

    @Sentence("(this holds for the empty text);")
    static void is0ForTheEmptyText() {
        error("", 0);
        DropBoxLoom x = Looms.withText("L0R0");
        x.clearText();
        Check.due("syntaxError() of a text that is empty again", x.syntaxError(), 0);
    }

    @Sentence("NONE if the text is a card list.")
    static void isNoneForTheShortestAndForTheLongestCardLists() {
        error("L0R0", DropBoxLoom.NONE);
        error("012345L3R1", DropBoxLoom.NONE);
        error("L0R0;L0R0", DropBoxLoom.NONE);
        error("L0R0;".repeat(15) + "0L0R0", DropBoxLoom.NONE);
        error("012345L3R1;".repeat(6) + "012345L0R0;L1R", 80);
        error("012345L3R1;".repeat(6) + "012345L0R0", DropBoxLoom.NONE);
    }

    @Sentence(UNFINISHED)
    static void isTheLengthForEachBeginningOfACardList() {
        String list = "024L3R1;L0R0;5L1R1";
        for (int length = 0; length <= list.length(); length++) {
            boolean isList = length == 7 || length == 12 || length == 18;
            error(list.substring(0, length), isList ? DropBoxLoom.NONE : length);
        }
    }

    @Sentence(UNFINISHED)
    static void is80ForAFullTextThatIsOnlyABeginning() {
        error("L0R0;".repeat(16), 80);
        error("L0R0;".repeat(15) + "01234", 80);
    }

    @Sentence("of any length,")
    static void findsNoErrorInCardsThatTheChainHasNoRoomFor() {
        DropBoxLoom x = Looms.withCards(16);
        Check.typeText(x, "L0R0;L0R0");
        Check.due("syntaxError()", x.syntaxError(), DropBoxLoom.NONE);
    }

    @Sentence(FIRST_CHARACTER)
    static void isTheFirstOfSeveralErrors() {
        error("!L0R0", 0);
        error("L0R0!!", 4);
        error("L0R9;L9R0", 3);
        error("10L9R9", 1);
        error("L0R0;L0R0;L4R2", 11);
    }

    @Sentence(FIRST_CHARACTER)
    static void canBeTheLastOf80Characters() {
        error("L0R0;".repeat(15) + "L0R0!", 79);
        error("L0R0;".repeat(15) + "L0RR0", 78);
    }

    @Sentence("where a card is the digits of the frames that are lifted, 0 to 5,")
    static void takesTheFrames0To5AndNoOther() {
        goesOn("", "012345L");
        goesOn("L0R0;", "012345L");
    }

    @Sentence("in ascending order")
    static void takesNoFrameTwiceAndNoLowerOne() {
        goesOn("0", "12345L");
        goesOn("2", "345L");
        goesOn("4", "5L");
        goesOn("5", "L");
        goesOn("013", "45L");
        goesOn("012345", "L");
    }

    @Sentence("in ascending order")
    static void beginsTheOrderAnewWithEachCard() {
        goesOn("345L0R0;", "012345L");
        error("345L0R0;012L0R0;0L0R0", DropBoxLoom.NONE);
    }

    @Sentence({"(there can be none),", "\"L\","})
    static void takesNoFramesButNeedsTheL() {
        error("L0R0;L0R0", DropBoxLoom.NONE);
        error("0R0", 1);
        error("R0", 0);
        error("l0R0", 0);
    }

    @Sentence("the digit of a box of the left side, 0 to 3,")
    static void takesTheLeftBoxes0To3AndNoOther() {
        goesOn("L", "0123");
        goesOn("L0R0;5L", "0123");
    }

    @Sentence("\"R\",")
    static void takesTheRAlone() {
        goesOn("L0", "R");
        goesOn("L3", "R");
    }

    @Sentence("and the digit of a box of the right side, 0 or 1.")
    static void takesTheRightBoxes0And1AndNoOther() {
        goesOn("L0R", "01");
        goesOn("L0R0;L0R", "01");
    }

    @Sentence(CARD_LIST)
    static void takesASemicolonBetweenCardsAlone() {
        goesOn("L0R0", ";");
        goesOn("L0R1;5L0R1", ";");
        error(";L0R0", 0);
        error("L0R0;;L0R0", 5);
        error("L0R0;", 5);
    }

    @Sentence("Finds the first syntax error of the text.")
    static void changesNothing() {
        Calls.changesNothing(Looms::busy, "syntaxError()", DropBoxLoom::syntaxError);
        Calls.changesNothing(Looms::full, "syntaxError()", DropBoxLoom::syntaxError);
    }
}
