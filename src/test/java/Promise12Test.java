/** Promise 12: weave, with the sentences of "Picks", "Speed" and "Cloth". */
public final class Promise12Test {
    private static final String FIRST_REASON = "A pick is stopped by the first of these reasons that applies,";
    private static final String LATEST_STOP = "The latest stop is told by its reason and by a number: the thread for 2,"
            + " the side for 3, the shuttle for 6, the shuttle on the left side for 4, and NONE for 1 and 5.";

    public static void main(String[] args) {
        Promise.test(Promise12Test.class);
    }

    /** The next pick of a busy loom would let the shuttle 4 fly from the right box 0 to the left box 1. */
    private static DropBoxLoom withoutCards() {
        DropBoxLoom x = Looms.busy();
        x.removeCard(0);
        x.removeCard(0);
        x.removeCard(0);
        return x;
    }

    private static DropBoxLoom withBrokenThread() {
        DropBoxLoom x = Looms.busy();
        x.mend(5, 0);
        return x;
    }

    private static DropBoxLoom tooFar() {
        DropBoxLoom x = Looms.busy();
        x.setSpeed(3);
        x.moveBoxes(0, 3);
        return x;
    }

    private static DropBoxLoom withBothBoxesFull() {
        DropBoxLoom x = Looms.busy();
        x.putIn(0, 0, 1);
        return x;
    }

    private static DropBoxLoom withBothBoxesEmpty() {
        DropBoxLoom x = Looms.busy();
        x.takeOut(4);
        return x;
    }

    private static DropBoxLoom withoutYarn() {
        DropBoxLoom x = withBothBoxesEmpty();
        x.wind(4, 9, 0);
        x.putIn(4, 1, 0);
        return x;
    }

    private static void stopped(DropBoxLoom x, int reason, int number) {
        int stops = x.count(11);
        Check.due("weave(3)", x.weave(3), 0);
        Check.due("reason", x.count(9), reason);
        Check.due("its number", x.count(10), number);
        Check.due("stops", x.count(11), stops + 1);
    }

    // ---- the number of picks

    @Sentence("`picks`: 1 to 99")
    static void takes1And99() {
        DropBoxLoom x = Looms.plain(99);
        Check.due("weave(99)", x.weave(99), 99);
        Check.due("picks", x.count(6), 99);
        DropBoxLoom y = Looms.plain(99);
        Check.due("weave(1)", y.weave(1), 1);
        Check.due("picks", y.count(6), 1);
    }

    @Sentence("BAD_VALUE if picks is out of range.")
    static void badValueForThePicks() {
        Calls.refusedOutside(1, 99, DropBoxLoom.BAD_VALUE, DropBoxLoom::weave);
        Calls.refused("weave(-1)", x -> x.weave(-1), DropBoxLoom.BAD_VALUE);
    }

    @Sentence({"Makes picks until one is stopped.", "Returns the number of picks that are made;"})
    static void returnsFewerPicksIfOneIsStopped() {
        DropBoxLoom x = Looms.plain(5);
        Check.due("weave(6)", x.weave(6), 5);
        Check.due("picks", x.count(6), 5);
        Check.due("stops", x.count(11), 1);
    }

    @Sentence("Returns the number of picks that are made;")
    static void returns0IfTheFirstPickIsStopped() {
        DropBoxLoom x = Looms.plain(0);
        Check.due("weave(99)", x.weave(99), 0);
        Check.due("picks", x.count(6), 0);
    }

    @Sentence("Makes picks until one is stopped.")
    static void tellsNoStopIfAllItsPicksAreMade() {
        DropBoxLoom x = Looms.plain(5);
        Check.due("weave(5), the next pick would be stopped", x.weave(5), 5);
        Check.due("reason", x.count(9), 0);
        Check.due("number", x.count(10), DropBoxLoom.NONE);
        Check.due("stops", x.count(11), 0);
    }

    // ---- the reasons

    @Sentence({"1: there is no card.", LATEST_STOP})
    static void reason1WithoutCards() {
        stopped(new DropBoxLoom(), 1, DropBoxLoom.NONE);
        stopped(withoutCards(), 1, DropBoxLoom.NONE);
    }

    @Sentence({"2: a thread is broken; the lowest one is told.", LATEST_STOP})
    static void reason2TellsTheLowestBrokenThread() {
        DropBoxLoom x = Looms.busy();
        for (int t = 11; t >= 0; t--) {
            x.mend(t, 0);
            stopped(x, 2, t);
        }
        x.mend(0, 1);
        stopped(x, 2, 1);
    }

    @Sentence("2: a thread is broken; the lowest one is told.")
    static void reason2EvenIfTheFrameOfTheThreadWouldNotMove() {
        DropBoxLoom x = Looms.plain(9);
        x.mend(11, 0);
        stopped(x, 2, 11);
        x.mend(11, 1);
        Check.due("weave(3) with the strength 1", x.weave(3), 3);
    }

    @Sentence({"3: a side would have to move its boxes too far; the left side first.", LATEST_STOP})
    static void reason3TellsTheLeftSide() {
        stopped(tooFar(), 3, 0);
    }

    @Sentence("the number of places is the absolute difference between the number of the box at the race and"
            + " that of the card.")
    static void reason3CountsPlacesUpAndDownAlike() {
        int[][] moves = {{0, 3}, {3, 0}, {1, 3}, {3, 1}, {0, 2}, {2, 0}};
        for (int[] move : moves) {
            DropBoxLoom x = new DropBoxLoom();
            x.setSpeed(2);
            x.putIn(0, 0, move[1]);
            x.addCard(0, move[1], 0);
            x.moveBoxes(0, move[0]);
            Check.due("from " + move[0] + " to " + move[1] + " at the speed 2", x.whyNot(),
                    move[0] + move[1] == 3 ? 3 : 0);
        }
    }

    @Sentence("A side can move its boxes by at most 4 minus the speed places for one pick;")
    static void reason3FromOnePlaceMoreThan4MinusTheSpeed() {
        for (int speed = 1; speed <= 3; speed++) {
            for (int i = 0; i < 16; i++) {
                DropBoxLoom x = new DropBoxLoom();
                x.setSpeed(speed);
                x.putIn(0, 0, i % 4);
                x.addCard(0, i % 4, 0);
                x.moveBoxes(0, i / 4);
                int places = Math.abs(i / 4 - i % 4);
                String call = places + " places at the speed " + speed;
                Check.due(call, x.weave(1), places <= 4 - speed ? 1 : 0);
                Check.due("reason of " + call, x.count(9), places <= 4 - speed ? 0 : 3);
                Check.due("left box after " + call, x.count(3), places <= 4 - speed ? i % 4 : i / 4);
            }
        }
    }

    @Sentence("3: a side would have to move its boxes too far; the left side first.")
    static void reason3NeverByTheRightSideWhichHasOnly2Boxes() {
        for (int speed = 1; speed <= 3; speed++) {
            for (int from = 0; from < 2; from++) {
                DropBoxLoom x = new DropBoxLoom();
                x.setSpeed(speed);
                x.putIn(0, 0, 0);
                x.addCard(0, 0, 1 - from);
                x.moveBoxes(1, from);
                Check.due("weave(1)", x.weave(1), 1);
                Check.due("right box", x.count(4), 1 - from);
            }
        }
    }

    @Sentence({"4: both boxes of the card have a shuttle.", LATEST_STOP})
    static void reason4TellsTheShuttleOnTheLeftSide() {
        stopped(withBothBoxesFull(), 4, 0);
        DropBoxLoom x = Looms.busy();
        x.putIn(1, 1, 1);
        x.turnTo(2);
        stopped(x, 4, 2);
    }

    @Sentence({"5: none of them has a shuttle.", LATEST_STOP})
    static void reason5EvenIfOtherBoxesHaveShuttles() {
        stopped(withBothBoxesEmpty(), 5, DropBoxLoom.NONE);
    }

    @Sentence({"6: the shuttle in one of them has no yarn.", LATEST_STOP})
    static void reason6TellsTheShuttleOnEitherSide() {
        stopped(withoutYarn(), 6, 4);
        DropBoxLoom x = new DropBoxLoom();
        x.wind(0, 0, 0);
        x.putIn(0, 0, 3);
        x.addCard(0, 3, 1);
        stopped(x, 6, 0);
    }

    @Sentence("6: the shuttle in one of them has no yarn.")
    static void reason6NotByAnEmptyShuttleInAnotherBox() {
        DropBoxLoom x = Looms.plain(3);
        x.wind(0, 0, 0);
        x.putIn(0, 0, 0);
        x.wind(1, 1, 0);
        x.putIn(1, 1, 0);
        Check.due("weave(3)", x.weave(3), 3);
    }

    @Sentence(FIRST_REASON)
    static void reason1BeforeReason2() {
        DropBoxLoom x = withoutCards();
        x.mend(7, 0);
        stopped(x, 1, DropBoxLoom.NONE);
    }

    @Sentence(FIRST_REASON)
    static void reason2BeforeReasons3To6() {
        DropBoxLoom[] looms = {tooFar(), withBothBoxesFull(), withBothBoxesEmpty(), withoutYarn()};
        for (DropBoxLoom x : looms) {
            x.mend(7, 0);
            stopped(x, 2, 7);
        }
    }

    @Sentence(FIRST_REASON)
    static void reason3BeforeReasons4To6() {
        DropBoxLoom[] looms = {withBothBoxesFull(), withBothBoxesEmpty(), withoutYarn()};
        for (int i = 0; i < looms.length; i++) {
            looms[i].setSpeed(3);
            looms[i].moveBoxes(0, 3);
            stopped(looms[i], 3, 0);
            looms[i].moveBoxes(0, 2);
            Check.due("the reason behind it", looms[i].whyNot(), 4 + i);
        }
    }

    @Sentence(FIRST_REASON)
    static void reason4BeforeReason6() {
        DropBoxLoom x = withoutYarn();
        x.wind(3, 3, 0);
        x.putIn(3, 0, 1);
        stopped(x, 4, 3);
    }

    @Sentence("and nothing changes then but the latest stop:")
    static void changesNothingButTheStopByEachReason() {
        int[] numbers = {DropBoxLoom.NONE, 5, 0, 0, DropBoxLoom.NONE, 4};
        for (int reason = 1; reason <= 6; reason++) {
            DropBoxLoom x = stoppedBy(reason);
            DropBoxLoom y = stoppedBy(reason);
            // Far from those of the card, so that boxes that come to the race all the same are seen.
            for (DropBoxLoom both : new DropBoxLoom[] {x, y}) {
                both.moveBoxes(0, 3);
                both.moveBoxes(1, 1);
            }
            stopped(x, reason, numbers[reason - 1]);
            Check.holds("all but the stop after reason " + reason,
                    Asked.allButStops(x).equals(Asked.allButStops(y)));
        }
    }

    private static DropBoxLoom stoppedBy(int reason) {
        switch (reason) {
            case 1: return withoutCards();
            case 2: return withBrokenThread();
            case 3: return tooFar();
            case 4: return withBothBoxesFull();
            case 5: return withBothBoxesEmpty();
            default: return withoutYarn();
        }
    }

    @Sentence("and nothing changes then but the latest stop:")
    static void leavesThePicksBeforeTheStopAsTheyAre() {
        DropBoxLoom x = Looms.moving(5);
        DropBoxLoom y = Looms.moving(5);
        Check.due("weave(99)", x.weave(99), 5);
        Check.due("weave(99) again", x.weave(99), 0);
        Check.due("weave(5)", y.weave(5), 5);
        Check.holds("all but the stop", Asked.allButStops(x).equals(Asked.allButStops(y)));
        Check.due("count(8)", x.count(8), 5);
        Check.due("takeBack()", x.takeBack(), y.takeBack());
    }

    @Sentence(LATEST_STOP)
    static void tellsTheLatestOfSeveralStops() {
        DropBoxLoom x = withoutYarn();
        stopped(x, 6, 4);
        x.takeOut(4);
        stopped(x, 5, DropBoxLoom.NONE);
        x.mend(3, 0);
        stopped(x, 2, 3);
        Check.due("stops, with that of the busy loom", x.count(11), 4);
    }

    // ---- a pick that is made

    @Sentence("Otherwise the boxes of the card come to the race;")
    static void bringsTheBoxesOfTheCardToTheRace() {
        DropBoxLoom x = new DropBoxLoom();
        x.putIn(0, 0, 3);
        x.addCard(0, 3, 1);
        x.weave(1);
        Check.due("left", x.count(3), 3);
        Check.due("right", x.count(4), 1);
    }

    @Sentence("the frames of the card are lifted, all others are down,")
    static void liftsTheFramesOfTheCardAlone() {
        DropBoxLoom x = Looms.plain(9);
        x.addCard(63, 1, 1);
        x.addCard(33, 1, 1);
        x.addCard(0, 1, 1);
        x.turnTo(2);
        int[] frames = {63, 33, 0};
        for (int lifted : frames) {
            x.weave(1);
            Check.due("lifted frames", x.count(5), lifted);
            for (int t = 0; t < 12; t++) {
                Check.due("lifted " + t, x.thread(t, 2), lifted >> t % 6 & 1);
            }
        }
    }

    @Sentence("and each thread whose frame was in the other state before loses 1 of its strength;")
    static void wearsAThreadBothWhenItsFrameGoesUpAndDownButNotWhenItStays() {
        DropBoxLoom x = Looms.plain(9);
        x.addCard(1, 1, 1);
        x.addCard(1, 1, 1);
        x.addCard(2, 1, 1);
        x.turnTo(2);
        int[][] strengths = {{59, 60, 60}, {59, 60, 60}, {58, 59, 60}, {58, 58, 60}};
        for (int[] due : strengths) {
            x.weave(1);
            for (int t = 0; t < 12; t++) {
                Check.due("strength of " + t, x.thread(t, 1), t % 6 < 2 ? due[t % 6] : 60);
            }
        }
    }

    @Sentence({"loses 1 of its strength;", "A thread is broken if its strength is 0."})
    static void breaksAThreadOfStrength1ByAPickThatIsMade() {
        DropBoxLoom x = Looms.moving(9);
        x.mend(6, 1);
        Check.due("weave(2)", x.weave(2), 1);
        Check.due("strength", x.thread(6, 1), 0);
        Check.due("reason", x.count(9), 2);
        Check.due("number", x.count(10), 6);
    }

    @Sentence("the shuttle flies to the box at the race of the other side")
    static void fliesToTheOtherSideAndBack() {
        DropBoxLoom x = new DropBoxLoom();
        x.putIn(0, 0, 0);
        x.addCard(0, 0, 1);
        x.addCard(0, 3, 1);
        x.weave(1);
        Check.due("right 1", x.inBox(1, 1), 0);
        Check.due("left 0", x.inBox(0, 0), DropBoxLoom.NONE);
        x.weave(1);
        Check.due("left 3", x.inBox(0, 3), 0);
        Check.due("right 1", x.inBox(1, 1), DropBoxLoom.NONE);
    }

    @Sentence("and has yarn for 1 pick less;")
    static void usesTheYarnOfTheLastPick() {
        DropBoxLoom x = Looms.plain(1);
        Check.due("weave(2)", x.weave(2), 1);
        Check.due("yarn", x.shuttle(2, 1), 0);
        Check.due("yarn of another one", x.shuttle(1, 1), 20);
        Check.due("reason", x.count(9), 6);
    }

    @Sentence("a row is added to the cloth;")
    static void addsOneRowWithEachPick() {
        DropBoxLoom x = Looms.moving(9);
        Check.due("rows", x.count(7), 0);
        x.weave(1);
        Check.due("rows", x.count(7), 1);
        Check.due("row 0", x.cloth(0, 3), 103);
        x.weave(1);
        Check.due("rows", x.count(7), 2);
        Check.due("row 0", x.cloth(0, 3), 7);
        Check.due("row 1", x.cloth(1, 3), 103);
    }

    @Sentence("The cloth has the latest 20 rows.")
    static void keepsTheLatest20Rows() {
        for (int picks = 19; picks <= 22; picks++) {
            DropBoxLoom x = Looms.plain(99);
            x.addCard(63, 1, 1);
            Check.due("weave", x.weave(picks), picks);
            int rows = Math.min(picks, 20);
            Check.due("rows of " + picks, x.count(7), rows);
            for (int row = 0; row < rows; row++) {
                boolean lifted = (picks - 1 - row) % 3 == 2;
                Check.due("row " + row + " of " + picks, x.cloth(row, 11), lifted ? 111 : 7);
            }
            Check.due("row behind the last one", x.cloth(rows, 0), DropBoxLoom.NO_SUCH);
        }
    }

    @Sentence("A row has the colour of the shuttle, and the set of threads that were lifted.")
    static void keepsTheColourAndTheThreadsOfTheRowThoughTheyChange() {
        DropBoxLoom x = Looms.plain(9);
        x.addCard(16, 1, 1);
        x.turnTo(2);
        x.weave(1);
        x.draw(4, 0);
        x.draw(0, 4);
        x.takeOut(2);
        x.wind(2, 1, 5);
        Check.due("the thread 4, which was lifted", x.cloth(0, 4), 104);
        Check.due("the thread 0, which was not", x.cloth(0, 0), 7);
    }

    @Sentence("and the place becomes the next one, behind the last card it is 0.")
    static void wrapsThePlaceBehindTheLastOf1Of3AndOf16Cards() {
        int[] chains = {1, 3, 16};
        for (int cards : chains) {
            DropBoxLoom x = new DropBoxLoom();
            x.wind(0, 0, 99);
            x.putIn(0, 0, 0);
            for (int card = 0; card < cards; card++) {
                x.addCard(0, 0, 0);
            }
            for (int pick = 1; pick <= 2 * cards; pick++) {
                x.weave(1);
                Check.due("place of " + cards + " after " + pick, x.count(1), pick % cards);
            }
        }
    }

    // ---- undo and taking back

    @Sentence("Undoable.")
    static void savesTheStateBefore() {
        Calls.undoable("weave(1)", x -> x.weave(1));
        Calls.undoable("weave(99)", x -> x.weave(99));
    }

    @Sentence({"Undoable.",
        "Methods marked \"Undoable\" save the state from before the call if they return no error code."})
    static void savesTheStateBeforeEvenIfItMakesNoPick() {
        Calls.undoable(Promise12Test::withoutCards, "weave that answers 0", x -> x.weave(5));
    }

    @Sentence("and no call of another Undoable method than weave() and takeBack() changed anything since:")
    static void doesNotEndTakingBackEvenIfItMakesNoPick() {
        DropBoxLoom x = Looms.plain(3);
        x.weave(3);
        Check.due("weave(1)", x.weave(1), 0);
        Check.due("count(8)", x.count(8), 3);
        Check.due("takeBack()", x.takeBack(), 0);
    }
}
