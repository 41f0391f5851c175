/** Promise 20: longestFloat. */
public final class Promise20Test {
    public static void main(String[] args) {
        Promise.test(Promise20Test.class);
    }

    /** The frame 0 is lifted in the picks whose signs are 1. */
    private static DropBoxLoom woven(String picks) {
        DropBoxLoom x = new DropBoxLoom();
        x.wind(0, 0, 99);
        x.putIn(0, 0, 0);
        x.addCard(0, 0, 0);
        x.addCard(1, 0, 0);
        for (int i = 0; i < picks.length(); i++) {
            x.turnTo(picks.charAt(i) - '0');
            Check.due("weave(1)", x.weave(1), 1);
        }
        return x;
    }

    private static void floats(String picks, int due) {
        DropBoxLoom x = woven(picks);
        Check.due("longestFloat(0) of " + picks, x.longestFloat(0), due);
        Check.due("longestFloat(6) of " + picks, x.longestFloat(6), due);
        Check.due("longestFloat(1) of " + picks, x.longestFloat(1), Math.min(picks.length(), 20));
    }

    @Sentence("Returns the number, 0 without rows;")
    static void is0WithoutRows() {
        floats("", 0);
        DropBoxLoom x = woven("1");
        x.takeBack();
        Check.due("longestFloat(0) after takeBack()", x.longestFloat(0), 0);
    }

    @Sentence({"Returns the longest float of a thread on the cloth:", "the greatest number of rows side by side"})
    static void isFoundAtBothEndsAndInTheMiddle() {
        floats("0", 1);
        floats("1", 1);
        floats("01", 1);
        floats("11", 2);
        floats("1110", 3);
        floats("0111", 3);
        floats("011101", 3);
        floats("1101011", 2);
        floats("10101010", 1);
    }

    @Sentence("in all of which it is lifted, or in all of which it is not.")
    static void isOfLiftedRowsOrOfOthersWhicheverIsLonger() {
        floats("11000", 3);
        floats("11100", 3);
        floats("00011", 3);
    }

    @Sentence("of a thread on the cloth:")
    static void isAtMost20AndWithoutTheRowsThatLeft() {
        floats("1".repeat(19), 19);
        floats("1".repeat(20), 20);
        floats("1".repeat(21), 20);
        floats("0".repeat(9) + "10".repeat(10), 1);
        floats("0".repeat(10) + "1".repeat(15), 15);
        floats("1".repeat(15) + "0".repeat(10), 10);
        floats("1".repeat(15) + "01".repeat(5), 10);
    }

    @Sentence("`thread`: 0 to 11")
    static void takesTheThreads0And11() {
        DropBoxLoom x = woven("10");
        Check.due("longestFloat(0)", x.longestFloat(0), 1);
        Check.due("longestFloat(11)", x.longestFloat(11), 2);
        x.draw(11, 0);
        Check.due("longestFloat(11), drawn then", x.longestFloat(11), 2);
    }

    @Sentence("NO_SUCH if there is no such thread.")
    static void noSuchThread() {
        Calls.refusedOutside(0, 11, DropBoxLoom.NO_SUCH, DropBoxLoom::longestFloat);
        Calls.refused(DropBoxLoom::new, "longestFloat(12) without rows", x -> x.longestFloat(12), DropBoxLoom.NO_SUCH);
    }
}
