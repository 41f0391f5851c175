/** Promise 24: repeats. */
public final class Promise24Test {
    public static void main(String[] args) {
        Promise.test(Promise24Test.class);
    }

    private static void repeats(String what, DropBoxLoom x, int due) {
        Check.due("repeats(): " + what, x.repeats(), due);
    }

    @Sentence("Returns 1 if it repeats, otherwise 0, also without cards.")
    static void is0WithoutCards() {
        repeats("a new loom", new DropBoxLoom(), 0);
        DropBoxLoom x = Looms.plain(9);
        x.removeCard(1);
        x.removeCard(0);
        repeats("a loom that has no cards any more", x, 0);
    }

    @Sentence({"Tells whether the chain repeats: whether,", "all picks of the chain,",
        "could be made one after the other,"})
    static void asksForEachPickOfTheChainToTheLastOf16() {
        repeats("2 cards", Looms.plain(20), 1);
        DropBoxLoom x = new DropBoxLoom();
        x.putIn(0, 0, 0);
        for (int card = 0; card < 16; card++) {
            x.addCard(0, 0, 0);
        }
        repeats("16 cards", x, 1);
        x.removeCard(15);
        x.addCard(0, 1, 1);
        repeats("the last card's boxes are empty", x, 0);
        x.putIn(1, 0, 1);
        x.putIn(2, 1, 1);
        repeats("the last card's boxes are full", x, 0);
    }

    @Sentence("from its card 0 on,")
    static void beginsWithTheCard0WhereverThePlaceIs() {
        DropBoxLoom x = new DropBoxLoom();
        x.putIn(0, 0, 0);
        int[] left = {0, 1, 1, 0};
        for (int card = 0; card < 4; card++) {
            x.addCard(0, left[card], card / 2);
        }
        for (int place = 0; place < 4; place++) {
            x.turnTo(place);
            repeats("place " + place, x, 1);
            Check.due("the place stays", x.count(1), place);
        }
    }

    @Sentence("beginning with the boxes at the race")
    static void beginsWithTheBoxesAtTheRaceAndNotWithThoseOfTheLastCard() {
        DropBoxLoom x = Looms.plain(9);
        x.setSpeed(2);
        repeats("1 place", x, 1);
        x.moveBoxes(0, 3);
        repeats("2 places", x, 1);
        x.setSpeed(3);
        repeats("2 places at the speed 3", x, 0);
    }

    @Sentence("and the frames of now,")
    static void beginsWithTheFramesOfNow() {
        DropBoxLoom x = new DropBoxLoom();
        x.putIn(0, 0, 0);
        x.addCard(1, 0, 0);
        x.addCard(1, 0, 0);
        x.mend(6, 1);
        repeats("the first card would lift the frame", x, 0);
        x.mend(6, 2);
        Check.due("weave(2)", x.weave(2), 2);
        Check.due("strength", x.thread(6, 1), 1);
        repeats("the frame is lifted", x, 1);
    }

    @Sentence("and all shuttles would be in the same boxes then as now,")
    static void asksForTheSameSideAndTheSameBox() {
        DropBoxLoom x = new DropBoxLoom();
        x.putIn(0, 0, 0);
        x.addCard(0, 0, 0);
        repeats("another side", x, 0);
        x.addCard(0, 1, 0);
        repeats("another box of the same side", x, 0);
        x.addCard(0, 1, 1);
        x.addCard(0, 0, 1);
        repeats("the same box", x, 1);
    }

    @Sentence("and all shuttles would be in the same boxes then as now,")
    static void asksForEachShuttleAndNotForAnyInEachBox() {
        DropBoxLoom x = new DropBoxLoom();
        x.putIn(3, 0, 0);
        x.putIn(4, 0, 1);
        int[] left = {0, 1, 0, 1};
        int[] right = {0, 1, 1, 0};
        for (int card = 0; card < 4; card++) {
            x.addCard(0, left[card], right[card]);
        }
        repeats("two shuttles change their boxes", x, 0);
        Check.due("weave(4)", x.weave(4), 4);
        Check.due("inBox(0, 0)", x.inBox(0, 0), 4);
        Check.due("inBox(0, 1)", x.inBox(0, 1), 3);
    }

    @Sentence("with enough yarn")
    static void asksForYarnForAllPicksAndNoMore() {
        repeats("no yarn", Looms.plain(0), 0);
        repeats("yarn for 1 of 2 picks", Looms.plain(1), 0);
        repeats("yarn for 2 picks", Looms.plain(2), 1);
    }

    /** The words ask that all picks could be made: a thread that the last of them breaks stops none of them. */
    @Sentence("and strength,")
    static void asksForStrengthBeforeEachPick() {
        int[] dues = {0, 0, 1, 1};
        for (int strength = 0; strength < dues.length; strength++) {
            DropBoxLoom x = Looms.moving(9);
            x.mend(11, strength);
            repeats("strength " + strength + " for 2 picks that move all frames", x, dues[strength]);
        }
        DropBoxLoom y = Looms.plain(9);
        y.mend(11, 1);
        repeats("strength 1 for picks that move no frame", y, 1);
        y.mend(11, 0);
        repeats("a broken thread in a frame that does not move", y, 0);
    }

    @Sentence("at the speed of now.")
    static void asksForTheSpeedOfNowBetweenTheCards() {
        DropBoxLoom x = new DropBoxLoom();
        x.putIn(0, 0, 0);
        x.putIn(1, 0, 3);
        int[] left = {0, 3, 3, 0};
        for (int box : left) {
            x.addCard(0, box, box / 3);
        }
        int[] dues = {1, 0, 0};
        for (int speed = 1; speed <= 3; speed++) {
            x.setSpeed(speed);
            repeats("3 places at the speed " + speed, x, dues[speed - 1]);
        }
    }

    @Sentence("Ahead of the calls `whyNot`, `picksLeft`, `firstEmpty`, `repeats` the interface says:"
            + " ---- forecasts; they change nothing.")
    static void changesNothing() {
        Calls.changesNothing(Looms::busy, "repeats()", DropBoxLoom::repeats);
        Calls.changesNothing(Looms::full, "repeats()", DropBoxLoom::repeats);
        DropBoxLoom x = Looms.plain(2);
        repeats("yarn for 2 picks", x, 1);
        repeats("again", x, 1);
        Check.due("stops", x.count(11), 0);
    }
}
