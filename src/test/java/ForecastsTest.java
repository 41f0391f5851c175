/** Promises 21 to 24: whyNot, picksLeft, firstEmpty, repeats. */
public final class ForecastsTest {
    public static void main(String[] args) {
        whyNot();
        picksLeft();
        picksLeftAtMost();
        firstEmpty();
        firstEmptyLeavesOut();
        repeats();
        repeatsNot();
        changeNothing();
        Check.end("ForecastsTest");
    }

    private static DropBoxLoom withShuttle(int shuttle, int yarn) {
        DropBoxLoom x = new DropBoxLoom();
        x.wind(shuttle, shuttle, yarn);
        x.putIn(shuttle, 0, 0);
        return x;
    }

    private static void whyNot() {
        DropBoxLoom x = withShuttle(0, 1);
        Check.due("whyNot() without cards", x.whyNot(), 1);
        x.addCard(0, 0, 0);
        Check.due("whyNot()", x.whyNot(), 0);
        Check.due("no stop by asking", x.count(11), 0);
        x.weave(1);
        Check.due("whyNot() without yarn", x.whyNot(), 6);
        x.addCard(0, 3, 0);
        x.turnTo(1);
        Check.due("whyNot(), the empty shuttle is on the right", x.whyNot(), 6);
        x.moveBoxes(1, 1);
        x.takeOut(0);
        Check.due("whyNot() without shuttle", x.whyNot(), 5);
    }

    private static void picksLeft() {
        DropBoxLoom x = withShuttle(4, 13);
        Check.due("picksLeft() without cards", x.picksLeft(), 0);
        x.addCard(0, 0, 0);
        Check.due("picksLeft() by yarn", x.picksLeft(), 13);
        x.addCard(63, 0, 0);
        x.mend(7, 5);
        Check.due("picksLeft() by strength: the first card moves no frame", x.picksLeft(), 6);
        x.setSpeed(3);
        x.moveBoxes(0, 2);
        Check.due("picksLeft() by distance", x.picksLeft(), 0);
        x.moveBoxes(0, 1);
        x.addCard(0, 2, 0);
        Check.due("picksLeft(), a later card too far", x.picksLeft(), 2);
    }

    private static void picksLeftAtMost() {
        DropBoxLoom x = new DropBoxLoom();
        for (int s = 0; s < 4; s++) {
            x.wind(s, s, s < 3 ? 50 : 49);
            x.putIn(s, 0, s);
            x.addCard(0, s, 0);
            x.addCard(0, s, 0);
        }
        Check.due("picksLeft() below 200", x.picksLeft(), 199);
        x.takeOut(3);
        x.wind(3, 3, 50);
        x.putIn(3, 0, 3);
        Check.due("picksLeft() at 200", x.picksLeft(), 200);
        for (int s = 0; s < 4; s++) {
            x.takeOut(s);
            x.wind(s, s, 99);
            x.putIn(s, 0, s);
        }
        Check.due("picksLeft(), at most 200", x.picksLeft(), 200);
        Check.due("firstEmpty() after more than 200", x.firstEmpty(), 0);
        x.weave(99);
        x.weave(99);
        Check.due("picksLeft() then", x.picksLeft(), 195);
    }

    private static void firstEmpty() {
        DropBoxLoom x = withShuttle(4, 9);
        Check.due("firstEmpty() without cards", x.firstEmpty(), DropBoxLoom.NONE);
        x.wind(2, 2, 5);
        x.putIn(2, 0, 1);
        Check.due("firstEmpty() without cards", x.firstEmpty(), DropBoxLoom.NONE);
        x.addCard(0, 0, 0);
        x.addCard(0, 0, 0);
        x.addCard(0, 1, 0);
        x.addCard(0, 1, 0);
        Check.due("firstEmpty()", x.firstEmpty(), 2);
        x.addCard(0, 0, 0);
        x.addCard(0, 0, 0);
        Check.due("firstEmpty() with other cards", x.firstEmpty(), 4);
        x.addCard(0, 2, 1);
        Check.due("firstEmpty(), stopped by empty boxes", x.firstEmpty(), DropBoxLoom.NONE);
        x.putIn(0, 0, 2);
        x.putIn(1, 1, 1);
        Check.due("firstEmpty(), stopped by full boxes", x.firstEmpty(), DropBoxLoom.NONE);
        DropBoxLoom y = withShuttle(3, 0);
        y.addCard(0, 0, 0);
        Check.due("firstEmpty() of an empty shuttle", y.firstEmpty(), 3);
        DropBoxLoom z = withShuttle(3, 0);
        z.putIn(1, 0, 1);
        z.addCard(0, 1, 0);
        Check.due("firstEmpty(), the empty one is not used", z.firstEmpty(), 1);
    }

    private static void firstEmptyLeavesOut() {
        DropBoxLoom x = withShuttle(1, 99);
        x.addCard(63, 0, 0);
        x.addCard(0, 0, 0);
        Check.due("firstEmpty() though the threads break at 60", x.firstEmpty(), 1);
        x.mend(0, 0);
        Check.due("firstEmpty() with a broken thread", x.firstEmpty(), 1);
        x.setSpeed(3);
        x.moveBoxes(0, 3);
        Check.due("firstEmpty() though the boxes bind", x.firstEmpty(), 1);
        Check.due("whyNot()", x.whyNot(), 2);
    }

    private static DropBoxLoom repeating() {
        DropBoxLoom x = withShuttle(0, 2);
        x.addCard(1, 0, 0);
        x.addCard(0, 0, 0);
        return x;
    }

    private static void repeats() {
        DropBoxLoom x = new DropBoxLoom();
        Check.due("repeats() without cards", x.repeats(), 0);
        DropBoxLoom y = repeating();
        Check.due("repeats()", y.repeats(), 1);
        y.turnTo(1);
        Check.due("repeats() begins with card 0", y.repeats(), 1);
        y.mend(0, 2);
        Check.due("repeats(), a thread that breaks by the last pick", y.repeats(), 1);
        y.moveBoxes(0, 3);
        Check.due("repeats() from far boxes at speed 1", y.repeats(), 1);
        DropBoxLoom z = withShuttle(0, 20);
        z.addCard(0, 0, 0);
        z.addCard(0, 1, 0);
        z.addCard(0, 1, 1);
        z.addCard(0, 0, 1);
        Check.due("repeats() through four boxes", z.repeats(), 1);
        z.turnTo(1);
        Check.due("repeats() begins with card 0, not with the place", z.repeats(), 1);
        Check.due("the place stays", z.count(1), 1);
        z.turnTo(0);
        z.weave(1);
        Check.due("repeats() from another box", z.repeats(), 0);
    }

    private static void repeatsNot() {
        DropBoxLoom x = repeating();
        x.addCard(0, 0, 0);
        Check.due("repeats(): another box, and the yarn ends", x.repeats(), 0);
        DropBoxLoom enough = withShuttle(0, 20);
        enough.addCard(0, 0, 0);
        Check.due("repeats(): another box", enough.repeats(), 0);
        DropBoxLoom yarn = withShuttle(0, 1);
        yarn.addCard(0, 0, 0);
        yarn.addCard(0, 0, 0);
        Check.due("repeats(): yarn", yarn.repeats(), 0);
        DropBoxLoom strength = repeating();
        strength.mend(6, 1);
        Check.due("repeats(): strength", strength.repeats(), 0);
        strength.draw(6, 1);
        Check.due("repeats(): a weak thread in a frame that rests", strength.repeats(), 1);
        DropBoxLoom far = repeating();
        far.moveBoxes(0, 2);
        far.setSpeed(3);
        Check.due("repeats(): at the speed of now", far.repeats(), 0);
        DropBoxLoom swap = new DropBoxLoom();
        swap.putIn(0, 0, 0);
        swap.addCard(0, 0, 0);
        swap.addCard(0, 1, 0);
        Check.due("repeats(): the same side, another box", swap.repeats(), 0);
        DropBoxLoom frames = withShuttle(0, 20);
        frames.addCard(1, 0, 0);
        frames.addCard(1, 0, 0);
        frames.mend(0, 1);
        Check.due("repeats(): the frames of now are down", frames.repeats(), 0);
        frames.mend(0, 60);
        frames.weave(2);
        frames.mend(0, 1);
        Check.due("repeats(): the frames of now are lifted", frames.repeats(), 1);
    }

    private static void changeNothing() {
        DropBoxLoom x = repeating();
        x.weave(1);
        long before = x.digest();
        for (int i = 0; i < 3; i++) {
            x.whyNot();
            x.picksLeft();
            x.firstEmpty();
            x.repeats();
        }
        Check.due("digest() after forecasts", x.digest(), before);
        Check.due("count(8) after forecasts", x.count(8), 1);
        Check.due("forecasts save nothing", Check.savedStates(x), 5);
    }
}
