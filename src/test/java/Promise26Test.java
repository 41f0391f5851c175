/** Promise 26: clearText. */
public final class Promise26Test {
    public static void main(String[] args) {
        Promise.test(Promise26Test.class);
    }

    @Sentence("Returns the previous length of the text.")
    static void returnsTheLengths0And80() {
        DropBoxLoom x = new DropBoxLoom();
        Check.due("clearText() of an empty text", x.clearText(), 0);
        Check.typeText(x, "0".repeat(80));
        Check.due("clearText() of a full text", x.clearText(), 80);
        Check.due("clearText() again", x.clearText(), 0);
    }

    @Sentence("Makes the text empty.")
    static void leavesNothingOfTheTextBehind() {
        DropBoxLoom x = Looms.withText("5L0R0;4L1R1");
        x.clearText();
        Check.due("syntaxError()", x.syntaxError(), 0);
        Check.due("readCards()", x.readCards(), DropBoxLoom.BAD_TEXT);
        Check.typeText(x, "3L2R1");
        Check.due("readCards() of a shorter text", x.readCards(), 1);
        Check.due("frames", x.card(0, 0), 8);
    }

    @Sentence("Makes the text empty.")
    static void isNotUndoable() {
        DropBoxLoom x = Looms.withText("L0R0");
        x.clearText();
        Check.due("undo()", x.undo(), DropBoxLoom.NOT_POSSIBLE);
        Check.due("clearText()", x.clearText(), 0);
        x.setSpeed(2);
        Check.typeText(x, "L0R0");
        x.clearText();
        Check.due("undo() of setSpeed()", x.undo(), 0);
        Check.due("clearText() after undo()", x.clearText(), 0);
    }
}
