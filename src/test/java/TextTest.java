/** Promises 25 to 28: type, clearText, syntaxError, readCards. */
public final class TextTest {
    public static void main(String[] args) {
        type();
        clearText();
        syntaxError();
        everySignAtEveryStep();
        readCards();
        readCardsRefuses();
        shorterThanBefore();
        Check.end("TextTest");
    }

    private static void type() {
        DropBoxLoom x = new DropBoxLoom();
        Check.due("type(32)", x.type(32), DropBoxLoom.BAD_VALUE);
        Check.due("type(127)", x.type(127), DropBoxLoom.BAD_VALUE);
        Check.due("type(-1)", x.type(-1), DropBoxLoom.BAD_VALUE);
        Check.due("type('L' + 65536)", x.type('L' + 65536), DropBoxLoom.BAD_VALUE);
        Check.due("type(33)", x.type(33), 1);
        Check.due("type(126)", x.type(126), 2);
        for (int length = 3; length <= 80; length++) {
            Check.due("type(48)", x.type(48), length);
        }
        Check.due("an 81st character", x.type(48), DropBoxLoom.LIMIT);
        Check.due("BAD_VALUE before LIMIT", x.type(32), DropBoxLoom.BAD_VALUE);
        Check.due("clearText()", x.clearText(), 80);
        Check.due("type() is not undoable", x.undo(), DropBoxLoom.NOT_POSSIBLE);
    }

    private static void clearText() {
        DropBoxLoom x = new DropBoxLoom();
        Check.due("clearText() of none", x.clearText(), 0);
        Check.typeText(x, "L0R");
        Check.due("clearText()", x.clearText(), 3);
        Check.due("clearText() again", x.clearText(), 0);
        Check.due("type(76)", x.type(76), 1);
        Check.due("clearText() is not undoable", x.undo(), DropBoxLoom.NOT_POSSIBLE);
    }

    private static void syntaxErrorOf(String text, int due) {
        DropBoxLoom x = new DropBoxLoom();
        Check.typeText(x, text);
        Check.due("syntaxError() of " + text, x.syntaxError(), due);
        Check.due("the text stays " + text, x.clearText(), text.length());
    }

    private static void syntaxError() {
        int none = DropBoxLoom.NONE;
        String[] texts = {"", "L0R0", "012345L3R1", "5L0R0;L1R1", "0", "01", "10", "00", "012345", "0123455",
            "L", "L0", "L4", "L0R", "L0R2", "L0R0;", "L0R0;;", ";", "L0R0L", "L0R00", "l0R0", "L0r0", "R0L0",
            "LR", "6L0R0", "24L2R1;135L1R0;03L3R1", "24L2R1;135L1R0;03L3R1!", "L0R0;L0R0;10", "~", "0!", "L0R0;54"};
        int[] dues = {0, none, none, none, 1, 2, 1, 1, 6, 6,
            1, 2, 1, 3, 3, 5, 5, 0, 4, 4, 0, 2, 0,
            1, 0, none, 21, 11, 0, 1, 6};
        for (int i = 0; i < texts.length; i++) {
            syntaxErrorOf(texts[i], dues[i]);
        }
        syntaxErrorOf("L0R0;".repeat(16), 80);
        syntaxErrorOf("L0R0;".repeat(15) + "0L0R0", none);
    }

    /** Behind each beginning of a card, every sign that can be typed is accepted or is the error. */
    private static void everySignAtEveryStep() {
        String[] beginnings = {"", "2", "5", "2L", "2L1", "2L1R", "2L1R0", "2L1R0;"};
        String[] accepted = {"012345L", "345L", "L", "0123", "R", "01", ";", "012345L"};
        for (int i = 0; i < beginnings.length; i++) {
            for (char sign = 33; sign <= 126; sign++) {
                DropBoxLoom x = new DropBoxLoom();
                Check.typeText(x, beginnings[i] + sign);
                boolean goesOn = accepted[i].indexOf(sign) >= 0;
                int full = i == 5 ? DropBoxLoom.NONE : beginnings[i].length() + 1;
                Check.due("syntaxError() of " + beginnings[i] + sign, x.syntaxError(),
                        goesOn ? full : beginnings[i].length());
            }
        }
    }

    private static void readCards() {
        DropBoxLoom x = new DropBoxLoom();
        x.addCard(9, 1, 0);
        Check.typeText(x, "024L3R1;L2R0;12345L0R1");
        Check.due("readCards()", x.readCards(), 4);
        int[][] cards = {{9, 1, 0}, {21, 3, 1}, {0, 2, 0}, {62, 0, 1}};
        for (int c = 0; c < cards.length; c++) {
            for (int what = 0; what < 3; what++) {
                Check.due("card(" + c + ", " + what + ")", x.card(c, what), cards[c][what]);
            }
        }
        Check.due("the text is empty then", x.clearText(), 0);
        Check.due("place", x.count(1), 0);
        Check.typeText(x, "L");
        Check.due("undo()", x.undo(), 1);
        Check.due("cards", x.count(0), 1);
        Check.due("undo() leaves the text", x.clearText(), 1);
    }

    private static void readCardsRefuses() {
        DropBoxLoom x = new DropBoxLoom();
        Check.refused(x, "readCards() of no text", x::readCards, DropBoxLoom.BAD_TEXT);
        Check.typeText(x, "L0R0;L0R0;");
        Check.refused(x, "readCards()", x::readCards, DropBoxLoom.BAD_TEXT);
        Check.due("the text stays", x.clearText(), 10);
        for (int c = 0; c < 14; c++) {
            x.addCard(1, 0, 0);
        }
        Check.typeText(x, "L0R0;L1R0;L2R0");
        Check.refused(x, "readCards(), 17 cards", x::readCards, DropBoxLoom.LIMIT);
        Check.due("the text stays", x.type('!'), 15);
        Check.refused(x, "BAD_TEXT before LIMIT", x::readCards, DropBoxLoom.BAD_TEXT);
        x.clearText();
        Check.typeText(x, "3L0R0;3L1R0");
        Check.due("readCards(), 16 cards", x.readCards(), 16);
        Check.due("card 15", x.card(15, 0), 8);
        Check.typeText(x, "L0R0");
        Check.refused(x, "readCards() to a full chain", x::readCards, DropBoxLoom.LIMIT);
        DropBoxLoom y = new DropBoxLoom();
        Check.typeText(y, "L0R0;".repeat(15) + "5L3R1");
        Check.due("readCards() of 16", y.readCards(), 16);
        Check.due("frames of the last", y.card(15, 0), 32);
        Check.due("frames of the one before", y.card(14, 0), 0);
    }

    /** What stood behind the end of the text before is no part of it. */
    private static void shorterThanBefore() {
        DropBoxLoom x = new DropBoxLoom();
        for (int c = 0; c < 14; c++) {
            x.addCard(1, 0, 0);
        }
        Check.typeText(x, "5L3R1;4L2R0;L0R0");
        x.clearText();
        Check.typeText(x, "5L3R1");
        Check.due("syntaxError()", x.syntaxError(), DropBoxLoom.NONE);
        Check.due("readCards()", x.readCards(), 15);
        Check.typeText(x, "5L3R1");
        Check.due("readCards()", x.readCards(), 16);
    }
}
