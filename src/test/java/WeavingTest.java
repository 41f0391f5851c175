/** Promises 12 and 13: weave, with the reasons that stop a pick, and takeBack. */
public final class WeavingTest {
    public static void main(String[] args) {
        weaveOne();
        weaveMany();
        range();
        reasonsInOrder();
        tooFar();
        takeBackOne();
        takeBackMany();
        takeBackMovesBoxes();
        takeBackKeepsWearAndStops();
        rowsThatLeft();
        changesEndTakingBack();
        Check.end("WeavingTest");
    }

    private static DropBoxLoom withOneShuttle(int yarn) {
        DropBoxLoom x = new DropBoxLoom();
        x.wind(2, 7, yarn);
        x.putIn(2, 0, 1);
        x.addCard(5, 1, 1);
        x.addCard(6, 1, 1);
        x.addCard(3, 1, 1);
        return x;
    }

    private static void stop(DropBoxLoom x, int reason, int number) {
        int stops = x.count(11);
        Check.due("whyNot()", x.whyNot(), reason);
        Check.due("weave(1)", x.weave(1), 0);
        Check.due("reason", x.count(9), reason);
        Check.due("its number", x.count(10), number);
        Check.due("stops", x.count(11), stops + 1);
    }

    private static void weaveOne() {
        DropBoxLoom x = withOneShuttle(20);
        Check.due("weave(1)", x.weave(1), 1);
        Check.due("left at the race", x.count(3), 1);
        Check.due("right at the race", x.count(4), 1);
        Check.due("lifted", x.count(5), 5);
        Check.due("picks", x.count(6), 1);
        Check.due("rows", x.count(7), 1);
        Check.due("place", x.count(1), 1);
        Check.due("side of the shuttle", x.shuttle(2, 2), 1);
        Check.due("box of the shuttle", x.shuttle(2, 3), 1);
        Check.due("yarn", x.shuttle(2, 1), 19);
        Check.due("no stop", x.count(11), 0);
        for (int t = 0; t < 12; t++) {
            boolean up = t % 6 == 0 || t % 6 == 2;
            Check.due("strength of " + t, x.thread(t, 1), up ? 59 : 60);
            Check.due("cloth at " + t, x.cloth(0, t), up ? 100 + t : 7);
        }
        x.weave(1);
        for (int t = 0; t < 12; t++) {
            int moved = t % 6 == 0 ? 58 : t % 6 == 1 || t % 6 == 2 ? 59 : 60;
            Check.due("strength of " + t + " after two", x.thread(t, 1), moved);
        }
        Check.due("side after flying back", x.shuttle(2, 2), 0);
    }

    private static void weaveMany() {
        DropBoxLoom x = withOneShuttle(7);
        Check.due("weave(5)", x.weave(5), 5);
        Check.due("place wraps", x.count(1), 2);
        Check.due("weave(5), stopped", x.weave(5), 2);
        Check.due("picks", x.count(6), 7);
        Check.due("reason", x.count(9), 6);
        Check.due("number", x.count(10), 2);
        Check.due("stops", x.count(11), 1);
        Check.due("weave(2), stopped at once", x.weave(2), 0);
        Check.due("stops", x.count(11), 2);
        Check.due("a weave that makes no pick is saved too", Check.savedStates(x), 6);
    }

    private static void range() {
        DropBoxLoom x = withOneShuttle(99);
        Check.refused(x, "weave(0)", () -> x.weave(0), DropBoxLoom.BAD_VALUE);
        Check.refused(x, "weave(-1)", () -> x.weave(-1), DropBoxLoom.BAD_VALUE);
        Check.refused(x, "weave(100)", () -> x.weave(100), DropBoxLoom.BAD_VALUE);
        for (int t = 0; t < 12; t++) {
            x.mend(t, 99);
        }
        Check.due("weave(99)", x.weave(99), 99);
        Check.due("no stop", x.count(11), 0);
    }

    /** The first reason that applies is told, so that mending one shows the next one. */
    private static void reasonsInOrder() {
        DropBoxLoom x = new DropBoxLoom();
        x.mend(9, 0);
        x.mend(4, 0);
        x.setSpeed(3);
        x.wind(1, 1, 0);
        x.putIn(1, 0, 3);
        x.putIn(3, 1, 1);
        stop(x, 1, DropBoxLoom.NONE);
        x.addCard(0, 3, 1);
        stop(x, 2, 4);
        x.mend(4, 1);
        stop(x, 2, 9);
        x.mend(9, 1);
        stop(x, 3, 0);
        x.setSpeed(1);
        stop(x, 4, 1);
        x.takeOut(3);
        stop(x, 6, 1);
        x.takeOut(1);
        stop(x, 5, DropBoxLoom.NONE);
        x.wind(1, 1, 1);
        x.putIn(1, 1, 1);
        Check.due("whyNot()", x.whyNot(), 0);
        Check.due("the latest stop stays", x.count(9), 5);
        Check.due("weave(2)", x.weave(2), 1);
        Check.due("reason", x.count(9), 6);
        Check.due("nothing else stops", x.count(3), 3);
    }

    private static void tooFar() {
        for (int speed = 1; speed <= 3; speed++) {
            for (int from = 0; from < 4; from++) {
                for (int to = 0; to < 4; to++) {
                    DropBoxLoom x = new DropBoxLoom();
                    x.setSpeed(speed);
                    x.putIn(0, 0, to);
                    x.addCard(0, to, 1);
                    x.moveBoxes(0, from);
                    boolean tooFar = Math.abs(to - from) > 4 - speed;
                    Check.due("speed " + speed + " from " + from + " to " + to, x.whyNot(), tooFar ? 3 : 0);
                    Check.due("picks", x.weave(1), tooFar ? 0 : 1);
                    Check.due("left at the race", x.count(3), tooFar ? from : to);
                }
            }
        }
    }

    private static void takeBackOne() {
        DropBoxLoom x = withOneShuttle(20);
        x.moveBoxes(0, 3);
        x.turnTo(2);
        Check.due("takeBack() without picks", x.takeBack(), DropBoxLoom.NOT_POSSIBLE);
        x.weave(1);
        Check.due("count(8)", x.count(8), 1);
        Check.due("takeBack()", x.takeBack(), 2);
        Check.due("place", x.count(1), 2);
        Check.due("left at the race", x.count(3), 3);
        Check.due("right at the race", x.count(4), 0);
        Check.due("lifted", x.count(5), 0);
        Check.due("picks", x.count(6), 0);
        Check.due("rows", x.count(7), 0);
        Check.due("count(8)", x.count(8), 0);
        Check.due("side", x.shuttle(2, 2), 0);
        Check.due("box", x.shuttle(2, 3), 1);
        Check.due("yarn", x.shuttle(2, 1), 20);
        Check.due("strength stays worn", x.thread(0, 1), 59);
        Check.refused(x, "takeBack()", x::takeBack, DropBoxLoom.NOT_POSSIBLE);
    }

    private static void takeBackMany() {
        DropBoxLoom x = withOneShuttle(20);
        x.weave(2);
        x.weave(3);
        int[] cards = {1, 0, 2, 1, 0};
        int[] lifted = {5, 3, 6, 5, 0};
        for (int i = 0; i < cards.length; i++) {
            Check.due("takeBack() " + i, x.takeBack(), cards[i]);
            Check.due("lifted", x.count(5), lifted[i]);
            Check.due("yarn", x.shuttle(2, 1), 16 + i);
            Check.due("side", x.shuttle(2, 2), i % 2);
        }
        Check.due("no more", x.takeBack(), DropBoxLoom.NOT_POSSIBLE);
        Check.due("each takeBack() was saved", Check.savedStates(x), 6);
        Check.due("as six calls ago", x.count(6), 2);
    }

    private static void takeBackMovesBoxes() {
        DropBoxLoom x = new DropBoxLoom();
        x.putIn(0, 0, 0);
        x.putIn(1, 0, 2);
        x.addCard(0, 0, 0);
        x.addCard(0, 2, 1);
        x.moveBoxes(0, 3);
        x.moveBoxes(1, 1);
        Check.due("weave(4)", x.weave(4), 4);
        int[] left = {0, 2, 0, 3};
        int[] right = {0, 1, 0, 1};
        for (int i = 0; i < left.length; i++) {
            Check.due("takeBack() " + i, x.takeBack(), 1 - i % 2);
            Check.due("left at the race", x.count(3), left[i]);
            Check.due("right at the race", x.count(4), right[i]);
        }
        Check.due("box of 0", x.inBox(0, 0), 0);
        Check.due("box of 1", x.inBox(0, 2), 1);
    }

    private static void takeBackKeepsWearAndStops() {
        DropBoxLoom x = withOneShuttle(3);
        x.weave(4);
        int worn = x.thread(0, 1);
        Check.due("takeBack()", x.takeBack(), 2);
        Check.due("reason stays", x.count(9), 6);
        Check.due("number stays", x.count(10), 2);
        Check.due("stops stay", x.count(11), 1);
        Check.due("strength stays", x.thread(0, 1), worn);
        Check.due("the pick can be made again", x.weave(1), 1);
    }

    private static void rowsThatLeft() {
        DropBoxLoom x = withOneShuttle(99);
        x.weave(23);
        Check.due("rows", x.count(7), 20);
        Check.due("count(8)", x.count(8), 20);
        x.takeBack();
        Check.due("rows", x.count(7), 19);
        Check.due("count(8)", x.count(8), 19);
        Check.due("no row 19", x.cloth(19, 0), DropBoxLoom.NO_SUCH);
        x.weave(1);
        Check.due("rows", x.count(7), 20);
        for (int i = 0; i < 20; i++) {
            Check.holds("takeBack() " + i, x.takeBack() >= 0);
        }
        Check.due("rows", x.count(7), 0);
        Check.due("picks", x.count(6), 3);
        Check.due("no row, no taking back", x.takeBack(), DropBoxLoom.NOT_POSSIBLE);
    }

    private interface Call {
        int made(DropBoxLoom loom);
    }

    private static void changesEndTakingBack() {
        Call[] changes = {
            x -> x.putIn(0, 0, 0), x -> x.takeOut(2), x -> x.wind(0, 0, 20), x -> x.moveBoxes(0, 1),
            x -> x.draw(0, 0), x -> x.mend(0, x.thread(0, 1)), x -> x.setSpeed(1), x -> x.addCard(0, 0, 0),
            x -> x.removeCard(2), x -> x.turnTo(2), x -> {
                Check.typeText(x, "L0R0");
                return x.readCards();
            }};
        for (int i = 0; i < changes.length; i++) {
            DropBoxLoom x = withOneShuttle(20);
            x.weave(2);
            Check.holds("change " + i + " is possible", changes[i].made(x) >= 0);
            Check.due("count(8) after change " + i, x.count(8), 0);
            Check.refused(x, "takeBack() after change " + i, x::takeBack, DropBoxLoom.NOT_POSSIBLE);
            Check.due("rows stay after change " + i, x.count(7), 2);
            x.undo();
            Check.due("count(8) after undo of change " + i, x.count(8), 2);
        }
        Call[] others = {
            x -> x.putIn(5, 0, 0), x -> x.takeOut(0), x -> x.wind(2, 0, 20), x -> x.moveBoxes(0, 4),
            x -> x.draw(0, 6), x -> x.mend(0, 100), x -> x.setSpeed(4), x -> x.addCard(64, 0, 0),
            x -> x.removeCard(3), x -> x.turnTo(3), DropBoxLoom::readCards, x -> x.weave(0),
            x -> x.type(33), DropBoxLoom::clearText, x -> x.count(8), DropBoxLoom::picksLeft};
        for (int i = 0; i < others.length; i++) {
            DropBoxLoom x = withOneShuttle(20);
            x.weave(2);
            others[i].made(x);
            Check.due("takeBack() after " + i + ", which changes nothing", x.takeBack(), 1);
        }
        DropBoxLoom x = withOneShuttle(20);
        x.weave(2);
        x.setSpeed(2);
        x.weave(3);
        Check.due("only what came since the change", x.count(8), 3);
        x.takeBack();
        x.takeBack();
        Check.due("the first one since the change", x.takeBack(), 2);
        Check.due("the change came since", x.takeBack(), DropBoxLoom.NOT_POSSIBLE);
        Check.due("rows", x.count(7), 2);
    }
}
