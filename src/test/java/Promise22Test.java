/** Promise 22: picksLeft. */
public final class Promise22Test {
    public static void main(String[] args) {
        Promise.test(Promise22Test.class);
    }

    /** Four shuttles that make two picks each in turn; one of them has no yarn for the pick behind so many. */
    private static DropBoxLoom withYarnFor(int picks) {
        DropBoxLoom x = new DropBoxLoom();
        for (int s = 0; s < 4; s++) {
            x.wind(s, s, s == picks % 8 / 2 ? picks / 8 * 2 + picks % 2 : 99);
            x.putIn(s, 0, s);
            x.addCard(0, s, 0);
            x.addCard(0, s, 0);
        }
        return x;
    }

    @Sentence({"Tells how many picks could be made until one is stopped.", "Returns the number,"})
    static void is0WithoutCardsAndWhereTheNextPickIsStopped() {
        Check.due("picksLeft() of a new loom", new DropBoxLoom().picksLeft(), 0);
        Check.due("picksLeft() without yarn", Looms.plain(0).picksLeft(), 0);
        DropBoxLoom x = Looms.plain(9);
        x.mend(0, 0);
        Check.due("picksLeft() with a broken thread", x.picksLeft(), 0);
    }

    @Sentence("Tells how many picks could be made until one is stopped.")
    static void countsToTheLastYarn() {
        for (int yarn = 1; yarn <= 99; yarn += 7) {
            DropBoxLoom x = Looms.plain(yarn);
            Check.due("picksLeft()", x.picksLeft(), yarn);
            Check.due("weave(99)", x.weave(99), yarn);
            Check.due("picksLeft() then", x.picksLeft(), 0);
        }
    }

    @Sentence("Tells how many picks could be made until one is stopped.")
    static void countsToTheFirstBrokenThread() {
        DropBoxLoom x = Looms.moving(99);
        Check.due("picksLeft()", x.picksLeft(), 60);
        x.mend(11, 1);
        Check.due("picksLeft(), the first pick breaks a thread", x.picksLeft(), 1);
        x.mend(11, 2);
        Check.due("picksLeft(), the second pick breaks a thread", x.picksLeft(), 2);
    }

    @Sentence("Tells how many picks could be made until one is stopped.")
    static void countsToACardThatStops() {
        DropBoxLoom x = Looms.plain(99);
        x.setSpeed(3);
        x.moveBoxes(0, 1);
        x.addCard(0, 3, 1);
        Check.due("picksLeft() before boxes too far", x.picksLeft(), 2);
        x.setSpeed(2);
        Check.due("picksLeft() before empty boxes, as the third card finds none in the right one",
                x.picksLeft(), 2);
        x.turnTo(1);
        Check.due("picksLeft() by a shuttle that flies to the right, and back to the left box 3", x.picksLeft(), 2);
    }

    @Sentence("at most 200.")
    static void isAtMost200() {
        int[] picks = {1, 8, 198, 199, 200, 201, 202, 390};
        for (int could : picks) {
            Check.due("picksLeft() of " + could, withYarnFor(could).picksLeft(), Math.min(could, 200));
        }
        DropBoxLoom x = withYarnFor(201);
        x.weave(1);
        Check.due("picksLeft() of 201 after a pick", x.picksLeft(), 200);
        x.weave(1);
        Check.due("picksLeft() of 201 after two picks", x.picksLeft(), 199);
    }

    @Sentence("Ahead of the calls `whyNot`, `picksLeft`, `firstEmpty`, `repeats` the interface says:"
            + " ---- forecasts; they change nothing.")
    static void changesNothing() {
        Calls.changesNothing(Looms::busy, "picksLeft()", DropBoxLoom::picksLeft);
        Calls.changesNothing(Looms::full, "picksLeft()", DropBoxLoom::picksLeft);
        DropBoxLoom x = Looms.plain(3);
        Check.due("picksLeft()", x.picksLeft(), 3);
        Check.due("latest stop", x.count(9), 0);
        Check.due("stops", x.count(11), 0);
        Check.due("picksLeft() again", x.picksLeft(), 3);
    }
}
