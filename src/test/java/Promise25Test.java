/** Promise 25: type. */
public final class Promise25Test {
    public static void main(String[] args) {
        Promise.test(Promise25Test.class);
    }

    @Sentence("`code`: character code, 33 to 126")
    static void takesTheCodes33And126() {
        DropBoxLoom x = new DropBoxLoom();
        Check.due("type(33)", x.type(33), 1);
        Check.due("type(126)", x.type(126), 2);
    }

    @Sentence("Appends a character to the text.")
    static void appendsAtTheEnd() {
        DropBoxLoom x = Looms.withText("1L2R0");
        Check.due("readCards()", x.readCards(), 1);
        Check.due("frames", x.card(0, 0), 2);
        Check.due("left", x.card(0, 1), 2);
        Check.due("right", x.card(0, 2), 0);
    }

    @Sentence({"Returns the new length of the text;", "There is a text of at most 80 characters,"})
    static void returnsTheLengthFrom1To80() {
        DropBoxLoom x = new DropBoxLoom();
        for (int length = 1; length <= 80; length++) {
            Check.due("type(48)", x.type(48), length);
        }
        x.clearText();
        Check.due("type(48) after clearText()", x.type(48), 1);
    }

    @Sentence("BAD_VALUE if code is out of range;")
    static void badValueForTheCode() {
        Calls.refusedOutside(33, 126, DropBoxLoom.BAD_VALUE, DropBoxLoom::type);
        Calls.refused("a code that becomes an L as a character", x -> x.type('L' + 65536), DropBoxLoom.BAD_VALUE);
        Calls.refused("type(0)", x -> x.type(0), DropBoxLoom.BAD_VALUE);
        Calls.refused("type(-1)", x -> x.type(-1), DropBoxLoom.BAD_VALUE);
    }

    @Sentence("LIMIT if the text has 80 characters.")
    static void limitForAn81stCharacter() {
        Calls.refused(Looms::full, "an 81st character", x -> x.type('L'), DropBoxLoom.LIMIT);
        DropBoxLoom x = Looms.withText("L0R0;".repeat(15) + "0L0R0");
        Check.due("an 81st character", x.type(';'), DropBoxLoom.LIMIT);
        Check.due("readCards(), the text is as it was", x.readCards(), 16);
        Check.due("type(48) then", x.type(48), 1);
    }

    @Sentence({"If several of them apply, the one that is named first in the @return line is returned.",
        "BAD_VALUE if code is out of range; LIMIT if the text has 80 characters."})
    static void badValueBeforeLimit() {
        Calls.refused(Looms::full, "type(32)", x -> x.type(32), DropBoxLoom.BAD_VALUE);
        Calls.refused(Looms::full, "type(127)", x -> x.type(127), DropBoxLoom.BAD_VALUE);
    }

    @Sentence("Appends a character to the text.")
    static void isNotUndoable() {
        DropBoxLoom x = new DropBoxLoom();
        x.type('L');
        Check.due("undo()", x.undo(), DropBoxLoom.NOT_POSSIBLE);
        Check.due("clearText()", x.clearText(), 1);
    }
}
