/** Promise 23: firstEmpty. */
public final class Promise23Test {
    public static void main(String[] args) {
        Promise.test(Promise23Test.class);
    }

    @Sentence({"Tells which of the shuttles would have no yarn first",
        "Returns the shuttle whose lack of yarn stops a pick;"})
    static void tellsTheShuttle0AndTheShuttle4() {
        for (int s = 0; s < 5; s += 4) {
            DropBoxLoom x = new DropBoxLoom();
            x.putIn(s, 0, 0);
            x.addCard(0, 0, 0);
            Check.due("firstEmpty()", x.firstEmpty(), s);
        }
    }

    @Sentence("Returns the shuttle whose lack of yarn stops a pick;")
    static void tellsTheOneWhosePickIsStoppedAndNotOneThatIsEmptyBefore() {
        DropBoxLoom x = new DropBoxLoom();
        x.wind(0, 0, 0);
        x.putIn(0, 0, 0);
        x.wind(1, 1, 2);
        x.putIn(1, 0, 1);
        x.addCard(0, 1, 0);
        Check.due("an empty shuttle in a box that no card names", x.firstEmpty(), 1);
        DropBoxLoom y = new DropBoxLoom();
        y.wind(0, 0, 2);
        y.putIn(0, 0, 0);
        y.wind(1, 1, 1);
        y.putIn(1, 0, 1);
        int[] left = {0, 0, 1, 1};
        for (int box : left) {
            y.addCard(0, box, 0);
        }
        Check.due("empty after the second pick, but the other one is stopped", y.firstEmpty(), 1);
    }

    @Sentence("Returns the shuttle whose lack of yarn stops a pick;")
    static void tellsTheShuttleThatStopsTheNextPick() {
        Check.due("on the left side", Looms.plain(0).firstEmpty(), 2);
        DropBoxLoom x = Looms.plain(1);
        x.weave(1);
        Check.due("on the right side", x.firstEmpty(), 2);
    }

    @Sentence("NONE if no pick is stopped by lack of yarn.")
    static void isNoneWithoutCards() {
        Check.due("a new loom", new DropBoxLoom().firstEmpty(), DropBoxLoom.NONE);
        DropBoxLoom x = Looms.plain(0);
        x.removeCard(0);
        x.removeCard(0);
        Check.due("a shuttle without yarn", x.firstEmpty(), DropBoxLoom.NONE);
    }

    @Sentence("NONE if no pick is stopped by lack of yarn.")
    static void isNoneIfBothBoxesStopAPickFirst() {
        DropBoxLoom x = Looms.plain(9);
        x.addCard(0, 0, 0);
        Check.due("empty boxes", x.firstEmpty(), DropBoxLoom.NONE);
        x.wind(0, 0, 0);
        x.wind(1, 1, 0);
        x.putIn(0, 0, 0);
        x.putIn(1, 1, 0);
        Check.due("full boxes, with shuttles without yarn", x.firstEmpty(), DropBoxLoom.NONE);
    }

    @Sentence("where the reasons 2 and 3 are left out.")
    static void leavesBrokenThreadsOut() {
        DropBoxLoom x = Looms.moving(99);
        Check.due("threads that break after 60 picks", x.firstEmpty(), 2);
        x.mend(0, 0);
        Check.due("a broken thread", x.firstEmpty(), 2);
        Check.due("whyNot()", x.whyNot(), 2);
        x.removeCard(0);
        x.removeCard(0);
        Check.due("a broken thread without cards", x.firstEmpty(), DropBoxLoom.NONE);
    }

    @Sentence("where the reasons 2 and 3 are left out.")
    static void leavesBoxesTooFarOut() {
        DropBoxLoom x = Looms.plain(99);
        x.setSpeed(3);
        x.moveBoxes(0, 3);
        Check.due("the first pick too far", x.firstEmpty(), 2);
        Check.due("whyNot()", x.whyNot(), 3);
        x.moveBoxes(0, 1);
        x.putIn(0, 0, 3);
        x.addCard(0, 3, 0);
        x.addCard(0, 3, 0);
        Check.due("a later pick too far", x.firstEmpty(), 0);
        Check.due("picksLeft()", x.picksLeft(), 2);
    }

    /** No loom has yarn for 999 picks: 5 shuttles with yarn for 99 picks are the most. */
    @Sentence("if picks were made until one is stopped, at most 999,")
    static void tellsTheShuttleAfterMoreThan200Picks() {
        DropBoxLoom x = new DropBoxLoom();
        for (int s = 0; s < 5; s++) {
            x.wind(s, s, 99);
            x.putIn(s, s / 4, s < 4 ? s : 1);
        }
        for (int s = 1; s < 4; s++) {
            x.addCard(0, s, 0);
            x.addCard(0, s, 0);
        }
        int[] right = {0, 1, 1, 0};
        for (int box : right) {
            x.addCard(0, 0, box);
        }
        Check.due("firstEmpty()", x.firstEmpty(), 1);
        Check.due("picksLeft()", x.picksLeft(), 200);
        int made = 0;
        for (int i = 0; i < 6; i++) {
            made += x.weave(99);
        }
        Check.due("picks of five shuttles", made, 491);
        Check.due("number of the stop", x.count(10), 1);
    }

    @Sentence("Ahead of the calls `whyNot`, `picksLeft`, `firstEmpty`, `repeats` the interface says:"
            + " ---- forecasts; they change nothing.")
    static void changesNothing() {
        Calls.changesNothing(Looms::busy, "firstEmpty()", DropBoxLoom::firstEmpty);
        Calls.changesNothing(Looms::full, "firstEmpty()", DropBoxLoom::firstEmpty);
        DropBoxLoom x = Looms.moving(99);
        Check.due("firstEmpty()", x.firstEmpty(), 2);
        Check.due("yarn", x.shuttle(2, 1), 99);
        Check.due("stops", x.count(11), 0);
    }
}
