/** Promise 21: whyNot. */
public final class Promise21Test {
    public static void main(String[] args) {
        Promise.test(Promise21Test.class);
    }

    @Sentence("Returns the reason by which the next pick would be stopped.")
    static void returnsThatOfTheCardAtThePlaceAndNotOfAnother() {
        DropBoxLoom x = Looms.plain(9);
        x.addCard(0, 0, 0);
        int[] dues = {0, 0, 5};
        for (int place = 0; place < 3; place++) {
            x.turnTo(place);
            Check.due("whyNot() at the place " + place, x.whyNot(), dues[place]);
        }
    }

    @Sentence("Returns the reason, 1 to 6;")
    static void returnsEachReasonFromTheLastToTheFirst() {
        DropBoxLoom x = Looms.busy();
        x.takeOut(4);
        Check.due("boxes empty", x.whyNot(), 5);
        x.wind(4, 9, 0);
        x.putIn(4, 1, 0);
        Check.due("no yarn", x.whyNot(), 6);
        x.putIn(3, 0, 1);
        Check.due("boxes full", x.whyNot(), 4);
        x.setSpeed(3);
        x.moveBoxes(0, 3);
        Check.due("too far", x.whyNot(), 3);
        x.mend(11, 0);
        Check.due("a broken thread", x.whyNot(), 2);
        for (int left = 2; left >= 0; left--) {
            x.removeCard(0);
        }
        Check.due("no card", x.whyNot(), 1);
    }

    @Sentence("0 if it would not be stopped.")
    static void returns0JustWithinTheBoundsOfAllReasons() {
        DropBoxLoom x = new DropBoxLoom();
        x.wind(0, 0, 1);
        x.putIn(0, 0, 3);
        x.addCard(63, 3, 1);
        for (int t = 0; t < 12; t++) {
            x.mend(t, 1);
        }
        Check.due("the last yarn, strength 1, 3 places", x.whyNot(), 0);
        x.setSpeed(2);
        Check.due("3 places at the speed 2", x.whyNot(), 3);
        x.moveBoxes(0, 1);
        Check.due("2 places at the speed 2", x.whyNot(), 0);
    }

    @Sentence({"Ahead of the calls `whyNot`, `picksLeft`, `firstEmpty`, `repeats` the interface says:"
            + " ---- forecasts; they change nothing.",
        "Returns the reason by which the next pick would be stopped."})
    static void changesNothing() {
        Calls.changesNothing(Looms::busy, "whyNot()", DropBoxLoom::whyNot);
        Calls.changesNothing(Looms::full, "whyNot()", DropBoxLoom::whyNot);
        DropBoxLoom x = new DropBoxLoom();
        Check.due("whyNot()", x.whyNot(), 1);
        Check.due("latest stop", x.count(9), 0);
        Check.due("stops", x.count(11), 0);
    }
}
